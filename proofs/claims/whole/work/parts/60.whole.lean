/-! ===== THE LAW, from its entry to its end ===== -/
section
variable {p : Program} {e : Env} {s : State} {m : MethodId} {below : List Frame} {meth : Method} {c : Code} {l : Launch} {b L : Nat} {xs : Nat → Int32}
abbrev en_C (p : Program) (e : Env) (s : State) (m : MethodId) (below : List Frame) (meth : Method) (c : Code) (b : Nat) : vm_C := (p, e, room_1, s, m, #[Value.ref b], below, meth, c, 600000, 7302250, lw_Z below #[Value.ref b] s, fun q => s.heap.size ≤ q)
theorem en_end {V : vm_G} {nL : Nat} (C0 : lw_At p s m meth c b L xs) (hl : V.1 = l) (F : vm_F V (en_C p e s m below meth c b) cL_law RL nL 10) (i : Nat) (σ : vm_M) : vm_Ex V (en_C p e s m below meth c b) nL 986 (lz_L i) [] σ := by
  obtain ⟨hx, hcb, hrt, hml, hown, hts, hX, hbl, hlk, hgv⟩ := C0
  refine q_iconst F 1 dL_law_986 (by decide) ?_
  intro H locs la hP hS hl
  exact va_forget hS.2.2 (lw_ret hx hcb hrt hlk dL_law_987)
theorem en_switch {D : va_G} {ids : Nat → ClassId} {h0 q1 q23 q24 a k n : Nat} {aR a5 a11 a17 aP aX aF : Nat → Nat} {ar ai : Nat → Nat → Nat} {bm : Nat → Nat} (hL : L ≤ 3072) (C0 : lw_At p s m meth c b L xs) (hK : va_K D vwCl (un_tys (l, D, ids, s.heap.size)) s) (hk : k ≤ 600000) (hn : n ≤ 7302250) : un_Ex (l, D, ids, s.heap.size) (en_C p e s m below meth c b) 4 18 [(3, .int 0), (2, .ref a), (1, .ref h0), (0, .ref b)] [] (un_all (l, D, ids, s.heap.size) h0 q1 q23 q24 aR a5 a11 a17 aP aX aF ar ai ++ un_model (l, D, ids, s.heap.size) a bm) k n := by
  intro H locs la hP hD hS hl
  obtain ⟨hx, hcb, hrt, hml, hown, hts, hX, hbl, hlk, hgv⟩ := id C0
  obtain ⟨ext, x1, x2⟩ := en_St (A := fun q => s.heap.size ≤ q) hts hgv (fun a h1 h2 => absurd h1 (Nat.not_lt.mpr h2))
  obtain ⟨ρ, r0, r202, rx, hw⟩ := wo_list (l, D, ids, s.heap.size) h0 q1 q23 q24 aR a5 a11 a17 aP aX aF ar ai a bm ext
  rw [hw] at hP hD
  have r5 : ρ 5000 = b := (rx 5000 (by decide)).trans x1
  have hV : ∀ k, k < vm_N → s.heap.size ≤ ρ k := fun k hk => hD.2 k _ (vm_ws_at hk)
  have hI : vm_inj (wo_V (l, D, ids, s.heap.size) ρ) := fun i j hi hj q => hD.1 i j _ _ (vm_ws_at hi) (vm_ws_at hj) q
  have F : vm_F (wo_V (l, D, ids, s.heap.size) ρ) (en_C p e s m below meth c b) cL_law RL 4 10 := ⟨hx, hcb, hml, hown, en_A hts, hK, x2 ρ rx, hV, hI, Nat.le_of_ble_eq_true rfl, Nat.le_of_ble_eq_true rfl, Nat.le_refl _, Nat.le_refl _⟩
  have S : lz_S (wo_V (l, D, ids, s.heap.size) ρ) (en_C p e s m below meth c b) b L xs := ⟨hX, hbl, fun h => absurd hbl (Nat.not_lt.mpr h), r5, hL⟩
  refine W.widen hk hn (lz_loop F S (fun i σ => en_end C0 rfl F i σ) (L + 1) 0 wo_S vm_T0 (Nat.zero_le _) (by omega) fi_C fi_M fi_S H locs la hP hS ?_)
  refine lv_sub hl [3, 2, 1, 0] ?_
  show [(0, Value.ref b), (1, Value.ref h0), (2, Value.ref a), (3, Value.int 0)] = [(0, Value.ref (ρ 5000)), (1, Value.ref (ρ 0)), (2, Value.ref (ρ 202)), (3, Value.int (nI 0))]
  rw [r5, r0, r202]
  rfl
end
set_option maxHeartbeats 1000000 in
theorem whole_start {p : Program} {e : Env} {s : State} {m : MethodId} {below : List Frame} {meth : Method} {c : Code} (l : Launch) (hflags : l.flags = flags0) {b L : Nat} {xs : Nat → Int32} (hL : L ≤ 3072) (C0 : lw_At p s m meth c b L xs) : W p l e room_1 s m #[Value.ref b] below meth c s.heap [] 0 0 (lw_Z below #[Value.ref b] s) (entryFrame m ([Value.ref b] : List Value).toArray 4) := by
  obtain ⟨hx, hcb, hrt, hml, hown, hts, hX, hbl, hlk, hgv⟩ := id C0
  obtain ⟨D, ids, hK⟩ := en_K hts
  have F : un_F (l, D, ids, s.heap.size) (en_C p e s m below meth c b) cL_law RL 4 10 600000 7302250 := ⟨hx, hcb, hml, hown, en_A hts, hK l s.heap.size, en_N hts, Nat.le_refl _, Nat.le_of_ble_eq_true rfl, Nat.le_of_ble_eq_true rfl, Nat.le_refl _, Nat.le_refl _⟩
  have hE := lv_entry [Value.ref b] (n := 4) (Nat.le_of_ble_eq_true rfl)
  rw [lg_entry_eq]
  have key : un_Ex (l, D, ids, s.heap.size) (en_C p e s m below meth c b) 4 0 [(0, .ref b)] [] [] 0 0 := by
    refine un_new (ci := 7) (fs := [.null, .null, .null, .null, .null, .null, .null, .null, .null, .null, .int 0, .int 0, .int 0]) (ty := tyX7) F inX7 tyX7_ok rfl (List.mem_filter.mpr ⟨by decide +kernel, by decide +kernel⟩) (List.mem_filter.mpr ⟨by decide +kernel, by decide +kernel⟩) (List.mem_filter.mpr ⟨by decide +kernel, by decide +kernel⟩) df_7 (Nat.le_of_ble_eq_true rfl) (Nat.le_of_ble_eq_true rfl) dL_law_0 (fun h0 => ?_)
    refine un_dup F dL_law_3 rfl ?_
    refine un_ci kI_X7 (List.mem_filter.mpr ⟨by decide +kernel, by decide +kernel⟩) F (n_all [] h0) rfl (by decide) rfl (Nat.le_of_ble_eq_true rfl) (Nat.le_of_ble_eq_true rfl) (Nat.le_of_ble_eq_true rfl) dL_law_4 (fun ws' hw => ?_)
    obtain ⟨q1, q23, q24, aR, a5, a11, a17, aP, aX, aF, ar, ai, rfl⟩ := hw
    rw [List.nil_append]
    refine un_astore F dL_law_7 (by decide) rfl ?_
    refine un_new (ci := 8) (fs := [.null, .null, .int 0, .null, .int 0, .int 0, .int 0, .null, .null, .null, .null, .int 0, .int 0, .int 0, .int 0, .int 0, .int 0, .null, .int 0, .int 0, .int 0]) (ty := tyX8) F inX8 tyX8_ok rfl (List.mem_filter.mpr ⟨by decide +kernel, by decide +kernel⟩) (List.mem_filter.mpr ⟨by decide +kernel, by decide +kernel⟩) (List.mem_filter.mpr ⟨by decide +kernel, by decide +kernel⟩) df_8 (Nat.le_of_ble_eq_true rfl) (Nat.le_of_ble_eq_true rfl) dL_law_8 (fun a => ?_)
    refine un_dup F dL_law_11 rfl ?_
    refine un_ci kI_X8 (List.mem_filter.mpr ⟨by decide +kernel, by decide +kernel⟩) F (n_model _ a) rfl (by decide) rfl (Nat.le_of_ble_eq_true rfl) (Nat.le_of_ble_eq_true rfl) (Nat.le_of_ble_eq_true rfl) dL_law_12 (fun ws' hw => ?_)
    obtain ⟨bm, rfl⟩ := hw
    refine un_astore F dL_law_15 (by decide) rfl ?_
    refine un_iconst F 0 dL_law_16 (by decide) ?_
    refine un_istore F dL_law_17 (by decide) rfl ?_
    exact en_switch hL C0 (hK l s.heap.size) (Nat.le_of_ble_eq_true rfl) (Nat.le_of_ble_eq_true rfl)
  exact key s.heap [] _ (fun k q hk => by simp at hk) ⟨fun i j q r hi => by simp at hi, fun k q hk => by simp at hk⟩ va_S.rf hE
