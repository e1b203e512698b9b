/-! ===== THE ENTRY: what the tables and the premises give ===== -/
section
variable {s : State} {b : Nat}
abbrev en_T (b : Nat) (s : State) : Prop := ∀ w ∈ lw_tbl, w.before #[Value.ref b] s = true
theorem en_A (h : en_T b s) : ∀ w ∈ vm_wsA, w.before #[Value.ref b] s = true := fun w hw => h w (List.mem_filter.mp hw).1
theorem en_arr {ty : FieldType} (h : (Cond.arrayClass ty).before #[Value.ref b] s = true) : ∃ cA, ArrOfT s cA ty ∧ s.vm.findClass ("[" ++ ty.toString) = some cA := by
  obtain ⟨c, k, comp, h1, h2, h3⟩ := Cond.arrayClass_spec h
  exact ⟨c, fun n z => ⟨fun k h => (by cases h), k, h2, comp, h3⟩, h1⟩
theorem en_over {C : String} (h : (Cond.arrayOver (.object C)).before #[Value.ref b] s = true) : ∃ cA, ArrOfT s cA (.object C) ∧ va_RA s cA (.object C) := by
  obtain ⟨comp, c, k, h1, h2, h3, h4, h5⟩ := Cond.arrayOver_spec h
  exact ⟨c, fun n z => ⟨fun k h => (by cases h), k, h3, comp, h4⟩, k, comp, h3, h4, h1, h5⟩
theorem en_K (h : en_T b s) : ∃ (D : va_G) (ids : Nat → ClassId), ∀ (l : Launch) (sz : Nat), va_K D vwCl (un_tys (l, D, ids, sz)) s := by
  obtain ⟨c0, i0, h0⟩ := u_known (en_A h) inX0 (h (Cond.instantiable RX0 2) (by decide +kernel))
  obtain ⟨c1, i1, h1⟩ := u_known (en_A h) inX1 (h (Cond.instantiable RX1 3) (by decide +kernel))
  obtain ⟨c2, i2, h2⟩ := u_known (en_A h) inX2 (h (Cond.instantiable RX2 10) (by decide +kernel))
  obtain ⟨c3, i3, h3⟩ := u_known (en_A h) inX3 (h (Cond.instantiable RX3 6) (by decide +kernel))
  obtain ⟨c4, i4, h4⟩ := u_known (en_A h) inX4 (h (Cond.instantiable RX4 4) (by decide +kernel))
  obtain ⟨c5, i5, h5⟩ := u_known (en_A h) inX5 (h (Cond.instantiable RX5 2) (by decide +kernel))
  obtain ⟨c6, i6, h6⟩ := u_known (en_A h) inX6 (h (Cond.instantiable RX6 2) (by decide +kernel))
  obtain ⟨c7, i7, h7⟩ := u_known (en_A h) inX7 (h (Cond.instantiable RX7 13) (by decide +kernel))
  obtain ⟨c8, i8, h8⟩ := u_known (en_A h) inX8 (h (Cond.instantiable RX8 21) (by decide +kernel))
  obtain ⟨a9, r9, f9⟩ := en_arr (h (Cond.arrayClass .int) (by decide +kernel))
  obtain ⟨a10, r10, f10⟩ := en_arr (h (Cond.arrayClass .char) (by decide +kernel))
  obtain ⟨a11, r11, f11⟩ := en_arr (h (Cond.arrayClass .boolean) (by decide +kernel))
  obtain ⟨a12, r12, f12⟩ := en_over (h (Cond.arrayOver (.object "ErrandLanes$Row")) (by decide +kernel))
  obtain ⟨a13, r13, f13⟩ := en_over (h (Cond.arrayOver (.object "ErrandLanes$Path")) (by decide +kernel))
  refine ⟨(fun k => match k with | 0 => c0 | 1 => c1 | 2 => c2 | 3 => c3 | 4 => c4 | 5 => c5 | 6 => c6 | 7 => c7 | _ => c8, fun k => match k with | 0 => i0 | 1 => i1 | 2 => i2 | 3 => i3 | 4 => i4 | 5 => i5 | 6 => i6 | 7 => i7 | _ => i8), fun k => match k with | 9 => a9 | 10 => a10 | 11 => a11 | 12 => a12 | _ => a13, fun l sz => ⟨fun c q hq => ?_, fun k q hk => ?_⟩⟩
  · rcases c with _ | _ | _ | _ | _ | _ | _ | _ | _ | c
    · cases hq; exact h0
    · cases hq; exact h1
    · cases hq; exact h2
    · cases hq; exact h3
    · cases hq; exact h4
    · cases hq; exact h5
    · cases hq; exact h6
    · cases hq; exact h7
    · cases hq; exact h8
    · simp [vwCl] at hq
  · rcases k with _ | _ | _ | _ | _ | k
    · cases hk; exact ⟨r9, f9⟩
    · cases hk; exact ⟨r10, f10⟩
    · cases hk; exact ⟨r11, f11⟩
    · cases hk; exact ⟨r12, f12⟩
    · cases hk; exact ⟨r13, f13⟩
    · simp [un_tys] at hk
theorem en_N (h : en_T b s) : un_N s := ⟨va_AO.of (h _ (by decide +kernel)), va_AO.of (h _ (by decide +kernel)), va_Nw.of rfl (h _ (by decide +kernel)), va_Nw.of rfl (h _ (by decide +kernel)), va_Nw.of rfl (h _ (by decide +kernel)), va_Nw.of rfl (h _ (by decide +kernel)), va_Nw.of rfl (h _ (by decide +kernel)), va_Nw.of rfl (h _ (by decide +kernel)), va_Nw.of rfl (h _ (by decide +kernel))⟩
abbrev en_F : List Cond := flatC (Jvm.Cond.and given_1 narrow_1)
theorem en_tab {nm : String} {l : List Int32} {A : Nat → Prop} (h : en_T b s) (hs : ∀ w ∈ en_F, w.before #[Value.ref b] s = true) (hA : ∀ a, a < s.heap.size → ¬ A a) (w1 : Cond.laysStatic "ErrandLanes" nm "[I" ∈ lw_tbl) (w2 : Cond.arrayOf (.static "ErrandLanes" nm "[I") .int ∈ en_F) (w3 : Cond.eq (.length (.static "ErrandLanes" nm "[I")) (.int 6) ∈ en_F) (w4 : ∀ j, j < 6 → Cond.eq (.elem (.static "ErrandLanes" nm "[I") (.int (Int32.ofNat j))) (.int (l.getD j 0)) ∈ en_F) : ∃ t, va_Z "ErrandLanes" nm "[I" (.ref t) A s s.heap ∧ va_T .int t 6 (fun j => .int (l.getD j 0)) A s s.heap := by
  obtain ⟨t, ht, hT⟩ := va_Tof (N := 6) (f := fun j => .int (l.getD j 0)) (A := A) (by decide) (hs _ w2) (va_eqt (hs _ w3)) (fun j hj => va_eqt (hs _ (w4 j hj))) hA
  exact ⟨t, va_Zof (h _ w1) (h (Cond.initialized "ErrandLanes") (by decide +kernel)) ht hA, hT⟩
def en_tm (i : Nat) : Term := .string "ErrandLanes$Reader" (([41, 60, 107, 109, 111, 113, 115] : List Nat).getD i 0)
def en_len : List Nat := vm_tx.map (fun q => q.2.2.length)
def en_byt : List (List Int32) := vm_tx.map (fun q => q.2.2)
theorem en_s1 : ∀ i, i < 7 → en_len.getD i 0 < 2 ^ 31 := by decide +kernel
theorem en_s2 : ∀ i, i < 7 → Cond.exactly (en_tm i) "java/lang/String" ∈ en_F := by decide +kernel
theorem en_s3 : ∀ i, i < 7 → Cond.eq (.field (en_tm i) "java/lang/String" "coder" "B") (.int 0) ∈ en_F := by decide +kernel
theorem en_s4 : ∀ i, i < 7 → Cond.arrayOf (.field (en_tm i) "java/lang/String" "value" "[B") .byte ∈ en_F := by decide +kernel
theorem en_s5 : ∀ i, i < 7 → Cond.eq (.length (.field (en_tm i) "java/lang/String" "value" "[B")) (.int (Int32.ofNat (en_len.getD i 0))) ∈ en_F := by decide +kernel
theorem en_s6 : ∀ i, i < 7 → ∀ j, j < en_len.getD i 0 → Cond.eq (.elem (.field (en_tm i) "java/lang/String" "value" "[B") (.int (Int32.ofNat j))) (.int ((en_byt.getD i []).getD j 0)) ∈ en_F := by decide +kernel
theorem en_s7 : ∀ i, i < 7 → ∀ j, j < 7 → i ≠ j → Cond.not (Cond.eq (en_tm i) (en_tm j)) ∈ en_F ∨ Cond.not (Cond.eq (en_tm j) (en_tm i)) ∈ en_F := by decide +kernel
theorem en_s8 : ∀ i, i < 7 → Cond.stringRef "ErrandLanes$Reader" (([41, 60, 107, 109, 111, 113, 115] : List Nat).getD i 0) ((vm_tx.getD i (0, "", [])).2.1) ∈ lw_tbl := by decide +kernel
theorem en_cg {N : Nat} {len : List Nat} {byt : List (List Int32)} {adK adV adK2 adV2 : Nat → Nat} {A : Nat → Prop} {U : State} {H : Heap} (h : vk_S N len byt adK adV A U H) (e : ∀ i, i < N → adK2 i = adK i ∧ adV2 i = adV i) : vk_S N len byt adK2 adV2 A U H := by
  refine ⟨fun i hi => ?_, fun i j hi hj q => h.2 i j hi hj ?_⟩
  · rw [(e i hi).1, (e i hi).2]
    exact h.1 i hi
  · rw [(e i hi).1, (e j hj).1] at q
    exact q
theorem en_St (h : en_T b s) (hgv : (Jvm.Cond.and given_1 narrow_1).before #[Value.ref b] s = true) {A : Nat → Prop} (hA : ∀ a, a < s.heap.size → ¬ A a) : ∃ ext : Nat → Nat, ext 5000 = b ∧ ∀ ρ : Nat → Nat, (∀ k, 211 ≤ k → ρ k = ext k) → vm_St ρ A s s.heap := by
  have hs : ∀ w ∈ en_F, w.before #[Value.ref b] s = true := flat_of_before _ hgv
  obtain ⟨t0, z0, T0⟩ := en_tab (nm := "IS_TOO") (l := vm_isToo) h hs hA (by decide +kernel) (by decide +kernel) (by decide +kernel) (by decide +kernel)
  obtain ⟨t1, z1, T1⟩ := en_tab (nm := "SIZE_BODIES") (l := vm_sizeB) h hs hA (by decide +kernel) (by decide +kernel) (by decide +kernel) (by decide +kernel)
  obtain ⟨t2, z2, T2⟩ := en_tab (nm := "MARK_BODIES") (l := vm_markB) h hs hA (by decide +kernel) (by decide +kernel) (by decide +kernel) (by decide +kernel)
  have hco : va_Z "java/lang/String" "COMPACT_STRINGS" "Z" (.int 1) A s s.heap := va_Zof (h _ (by decide +kernel)) (h (Cond.initialized "java/lang/String") (by decide +kernel)) (va_eqi (hs _ (by decide +kernel))) hA
  obtain ⟨t4, h4⟩ : ∃ t4, va_Z "jdk/internal/util/Preconditions" "SIOOBE_FORMATTER" "Ljava/util/function/BiFunction;" .null A s s.heap ∨ va_Z "jdk/internal/util/Preconditions" "SIOOBE_FORMATTER" "Ljava/util/function/BiFunction;" (.ref t4) A s s.heap := by
    rcases va_Zqof (C := "jdk/internal/util/Preconditions") (n := "SIOOBE_FORMATTER") (d := "Ljava/util/function/BiFunction;") (h _ (by decide +kernel)) (h (Cond.initialized "jdk/internal/util/Preconditions") (by decide +kernel)) (hs _ (by decide +kernel)) hA with z | ⟨t, z⟩
    · exact ⟨0, Or.inl z⟩
    · exact ⟨t, Or.inr z⟩
  obtain ⟨adK, adV, hK, hE⟩ := vk_Sof (N := 7) (tm := en_tm) (len := en_len) (byt := en_byt) en_s1 (fun i hi => hs _ (en_s2 i hi)) (fun i hi => hs _ (en_s3 i hi)) (fun i hi => hs _ (en_s4 i hi)) (fun i hi => hs _ (en_s5 i hi)) (fun i hi j hj => hs _ (en_s6 i hi j hj)) (fun i j hi hj hij => (en_s7 i hi j hj hij).imp (hs _) (hs _)) hA
  refine ⟨fun k => if k = 1000 then t0 else if k = 1001 then t1 else if k = 1002 then t2 else if k = 4001 then t4 else if k = 5000 then b else if k < 3000 then adK (k - 2000) else adV (k - 3000), rfl, fun ρ hρ => ?_⟩
  have e0 : ρ 1000 = t0 := hρ 1000 (by decide)
  have e1 : ρ 1001 = t1 := hρ 1001 (by decide)
  have e2 : ρ 1002 = t2 := hρ 1002 (by decide)
  have e4 : ρ 4001 = t4 := hρ 4001 (by decide)
  have eK : ∀ i, i < 7 → ρ (2000 + i) = adK i ∧ ρ (3000 + i) = adV i := fun i hi => ⟨by
    rw [hρ _ (by omega)]
    dsimp only
    rw [if_neg (by omega), if_neg (by omega), if_neg (by omega), if_neg (by omega), if_neg (by omega), if_pos (by omega), Nat.add_sub_cancel_left], by
    rw [hρ _ (by omega)]
    dsimp only
    rw [if_neg (by omega), if_neg (by omega), if_neg (by omega), if_neg (by omega), if_neg (by omega), if_neg (by omega), Nat.add_sub_cancel_left]⟩
  clear hρ
  subst e0 e1 e2 e4
  refine ⟨⟨z0, z1, z2⟩, ⟨T0, T1, T2⟩, ⟨hco, h4⟩, en_cg hK eK, fun i q hq => ?_, va_Nw.of rfl (h _ (by decide +kernel))⟩
  have hi : i < 7 := (List.getElem?_eq_some_iff.mp hq).1
  have key := vk_R.of (h _ (en_s8 i hi)) (hE i hi)
  rw [(eK i hi).1]
  rcases (show i = 0 ∨ i = 1 ∨ i = 2 ∨ i = 3 ∨ i = 4 ∨ i = 5 ∨ i = 6 by omega) with rfl | rfl | rfl | rfl | rfl | rfl | rfl <;> (cases hq; exact key)
end
