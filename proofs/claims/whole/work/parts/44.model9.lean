/-- only what nobody sees has changed -/
def mScr (σ σ' : vm_M) : Prop := (∀ o, o ≠ 202 → o ≠ 203 → o ≠ 210 → σ' o = σ o) ∧ (∀ k, k < 12 → σ' 202 k = σ 202 k) ∧ ∀ j, j < 93 → σ' 203 j = σ 203 j
theorem mScr.rf {σ : vm_M} : mScr σ σ := ⟨fun _ _ _ _ => rfl, fun _ _ => rfl, fun _ _ => rfl⟩
theorem mScr.tr {σ σ1 σ2 : vm_M} (h : mScr σ σ1) (h2 : mScr σ1 σ2) : mScr σ σ2 := ⟨fun o a b c => (h2.1 o a b c).trans (h.1 o a b c), fun k hk => (h2.2.1 k hk).trans (h.2.1 k hk), fun k hk => (h2.2.2 k hk).trans (h.2.2 k hk)⟩
theorem mTr3.sc {σ σ' : vm_M} (h : mTr3 σ σ') : mScr σ σ' := ⟨fun o _ b _ => h.1 o b, fun k _ => by rw [h.1 202 (by omega)], h.2⟩
theorem mFix.sc {σ σ' : vm_M} {v : vm_V} (h : mFix σ 0 v) (hf : mScr σ σ') (hn : V_n v ≤ 6) : mFix σ' 0 v := by
  obtain ⟨h1, h2, h3, h4⟩ := h
  have f := hf.2.2
  refine ⟨(f _ (by omega)).trans h1, (f _ (by omega)).trans h2, (f _ (by omega)).trans h3, fun p hp => ?_⟩
  obtain ⟨h5, h6⟩ := h4 p hp
  exact ⟨(f _ (by omega)).trans h5, (f _ (by omega)).trans h6⟩
theorem mMov.sc {σ σ' : vm_M} {v : vm_V} (h : mMov σ 203 (0 + 5) v) (hf : mScr σ σ') (hn : V_n v ≤ 6) : mMov σ' 203 (0 + 5) v := h.fr hn 203 (fun k hk => hf.2.2 _ (by omega))
theorem MInv.sc {σ σ' : vm_M} {T : vm_T} (h : MInv σ T) (hI : SInv T) (hf : mScr σ σ') : MInv σ' T := by
  obtain ⟨h1, h2, ⟨h3, h9⟩, h4, h5, h6, h7, h8⟩ := h
  obtain ⟨e, d, f⟩ := hf
  refine ⟨?_, ?_, ⟨(f _ (by omega)).trans h3, h9.mv hI.1.1.1 0 (fun j _ hj => f _ (by omega))⟩, ?_, ?_, ?_, (d _ (by omega)).trans h7, (d _ (by omega)).trans h8⟩
  · unfold mRows; rw [e 206 (by omega) (by omega) (by omega), e 207 (by omega) (by omega) (by omega), e 208 (by omega) (by omega) (by omega)]; exact h1
  · unfold mTape; rw [d 4 (by omega), e 205 (by omega) (by omega) (by omega)]; exact h2
  · unfold mPast mMov at *; rw [d 2 (by omega), e 204 (by omega) (by omega) (by omega)]; exact h4
  · intro k hk
    obtain ⟨a1, a2⟩ := h5 k hk
    exact ⟨(f _ (by omega)).trans a1, fun z => (a2 z).mv (hI.2.2.2.2.2.1 k hk z).1.1.1 _ (fun j _ hj => f _ (by omega))⟩
  · unfold mTr; rw [d 11 (by omega), e 209 (by omega) (by omega) (by omega)]; exact h6
theorem wM_or {g : Nat → Bool} {i : Nat} (hi : i < 6) : nI (wM g i) ||| (nI 1 <<< (nI i &&& 31)) = nI (wM g i + 2 ^ i) := by
  have hl := wM_lt g i
  have h64 := pow6 (show i ≤ 6 by omega)
  have e : wM g i + 2 ^ i = wM g i ||| 2 ^ i := by
    have := Nat.two_pow_add_eq_or_of_lt hl 1
    rw [Nat.mul_one] at this
    rw [Nat.or_comm, ← this]
    omega
  rw [e]
  exact or_small _ (by omega) _ (by omega)
theorem sF_some {f : Nat → Bool} {n p : Nat} (hp : p < n) (h : f p = true) : sF f n < n := by
  rcases Nat.lt_or_ge (sF f n) n with q | q
  · exact q
  · have := sF_before (f := f) (m := n) (p := p) (by omega)
    rw [h] at this
    exact absurd this (by decide)
theorem can_iff {kd : Nat → Nat} {n s : Nat} : sCan kd n s = true ↔ ∀ p, p < n → s.testBit p = true → kd p ≠ 5 := by
  unfold sCan
  rw [Bool.not_eq_true', decide_eq_false_iff_not]
  constructor
  · intro h p hp hs hk
    exact h (sF_some hp (by simp [hs, hk]))
  · intro h hs
    have := sF_lt hs
    simp only [Bool.and_eq_true, beq_iff_eq] at this
    exact h _ hs this.2 this.1
theorem and_sub {kd : Nat → Nat} {n s : Nat} (hs : s < 2 ^ n) : s &&& wM (fun p => !(decide (kd p = 5))) n = s ↔ sCan kd n s = true := by
  rw [can_iff]
  constructor
  · intro h p hp hb
    rw [← h, Nat.testBit_and, wM_bit] at hb
    simp only [Bool.and_eq_true, decide_eq_true_eq, Bool.not_eq_true', decide_eq_false_iff_not] at hb
    exact hb.2.2
  · intro h
    refine Nat.eq_of_testBit_eq (fun p => ?_)
    rw [Nat.testBit_and, wM_bit]
    by_cases hp : p < n
    · by_cases hb : s.testBit p = true
      · simp [hb, hp, h p hp hb]
      · simp [hb]
    · have : s.testBit p = false := Nat.testBit_lt_two_pow (Nat.lt_of_lt_of_le hs (Nat.pow_le_pow_right (by omega) (by omega)))
      simp [this]
theorem out_z : ∀ s, s < 64 → ∀ k, k < 64 → (nI s &&& (nI k ^^^ (-1)) = 0 ↔ s &&& k = s) := by decide +kernel
theorem andn : ∀ a, a < 64 → ∀ k, k < 64 → nI a &&& (nI k ^^^ (-1)) = nI (a ^^^ (a &&& k)) ∧ (a ^^^ (a &&& k)) < 64 := by decide +kernel
theorem and64 : ∀ a, a < 64 → ∀ k, k < 64 → nI a &&& nI k = nI (a &&& k) := by decide +kernel
theorem sSet_at {kd : Nat → Nat} {s : Nat} {wy : Nat → Bool} : ∀ n p, sSet kd s n wy p = (if p < n ∧ kd p ≠ 5 then s.testBit p else wy p)
  | 0, p => by simp [sSet]
  | n + 1, p => by
    have ih := sSet_at (kd := kd) (s := s) (wy := wy) n p
    unfold sSet
    by_cases h5 : kd n = 5
    · rw [if_pos h5, ih]
      by_cases e : p = n
      · subst e; simp [h5]
      · have : (p < n + 1) = (p < n) := by simp; omega
        simp only [this]
    · rw [if_neg h5]
      by_cases e : p = n
      · subst e; rw [vm_u_s, if_pos ⟨by omega, h5⟩]
      · rw [vm_u_n e, ih]
        have : (p < n + 1) = (p < n) := by simp; omega
        simp only [this]
theorem wM_set {kd : Nat → Nat} {s n : Nat} {wy : Nat → Bool} (hn : n ≤ 6) (hs : s < 2 ^ n) (hc : sCan kd n s = true) : (nI (wM wy n) &&& (nI (wM (fun p => !(decide (kd p = 5))) n) ^^^ (-1))) ||| nI s = nI (wM (sSet kd s n wy) n) := by
  have h64 := pow6 hn
  have ha := andn _ (wM_64 (wy := wy) hn) _ (wM_64 (wy := fun p => !(decide (kd p = 5))) hn)
  rw [ha.1, (or64 _ ha.2 s (by omega)).1]
  congr 1
  have hlt : (wM wy n ^^^ (wM wy n &&& wM (fun p => !(decide (kd p = 5))) n)) < 2 ^ n := Nat.xor_lt_two_pow (wM_lt _ _) (Nat.and_lt_two_pow _ (wM_lt _ _))
  refine wM_of (Nat.or_lt_two_pow hlt hs) (fun p hp => ?_)
  rw [Nat.testBit_or, Nat.testBit_xor, Nat.testBit_and, wM_bit, wM_bit, sSet_at]
  have hq := can_iff.mp hc p hp
  by_cases h5 : kd p = 5
  · have : s.testBit p = false := by
      cases hb : s.testBit p
      · rfl
      · exact absurd h5 (hq hb)
    simp [hp, h5, this]
  · simp [hp, h5]
theorem sG_out {v : vm_V} (h : sG v) (s : Nat) : sG (sOut s v) := h
theorem sz_m2 : ∀ m, m < 65 → (nI m - nI 1).toInt64.toInt = (m : Int) - 1 := by decide +kernel
theorem nfx : ∀ n, n < 7 → nI 1 <<< (nI n &&& 31) = nI (2 ^ n) := pow_at
theorem vm_lsx {G : vm_G} {C : vm_C} {nL pc : Nat} {a : Option Value} {t : List (Option Value)} {x y : Int32} {st : List Value} {σ : vm_M} (e : x = y) (h : vm_Ex G C nL pc (a :: some (.int y) :: t) st σ) : vm_Ex G C nL pc (a :: some (.int x) :: t) st σ := e ▸ h
set_option maxHeartbeats 4000000 in
set_option maxRecDepth 100000 in
theorem m_walkers {G : vm_G} {σ : vm_M} {v : vm_V} (hX : mFix σ 0 v) (hn : V_n v ≤ 6) (hk : ∀ p, V_kd v p < 6) : vm_RI G 1 mX8_walkers [.ref 202] σ (fun r σ' => r = nI (wM (fun p => !(decide (V_kd v p = 5))) (V_n v)) ∧ σ' = σ) := by
  refine vm_int (y := mX8_walkers) (by decide) (Nat.le_of_ble_eq_true rfl) (ls0 := [some (.ref 202), none, none]) rfl rfl (fun C F K => ?_)
  have F : vm_F G C cX8_walkers RX8 3 _ := F
  show vm_Ex G C 3 0 [some (.ref 202), none, none] [] _
  have L : ∀ k i, i + k = V_n v → vm_Ex G C 3 4 [some (.ref 202), some (.int (nI (wM (fun p => !(decide (V_kd v p = 5))) i))), some (.int (nI i))] [] σ := by
    intro k
    induction k with
    | zero =>
      intro i hi
      refine q_iload_n F 2 dX8_walkers_4 rfl rfl ?_
      refine q_aload_n F 0 dX8_walkers_5 rfl rfl ?_
      refine gX8_7 F dX8_walkers_6 sh_202 rfl ?_
      refine q_iconst F (nI 3) dX8_walkers_9 (by decide) ?_
      refine q_iald F dX8_walkers_10 sh_203 (by omega) (by decide) ?_
      refine q_top (.int (nI (V_n v))) (congrArg Value.int (hX.aN)) ?_
      refine n_ge F 38 dX8_walkers_11 (by decide) (by omega) (by omega) (fun c_11 => ?_) (fun c_11 => ?_)
      · refine q_iload_n F 1 dX8_walkers_38 rfl rfl ?_
        refine K _ _ _ _ ?_ dX8_walkers_39 rfl
        rw [show i = V_n v by omega]
        exact ⟨rfl, rfl⟩
      · omega
    | succ k ih =>
      intro i hi
      refine q_iload_n F 2 dX8_walkers_4 rfl rfl ?_
      refine q_aload_n F 0 dX8_walkers_5 rfl rfl ?_
      refine gX8_7 F dX8_walkers_6 sh_202 rfl ?_
      refine q_iconst F (nI 3) dX8_walkers_9 (by decide) ?_
      refine q_iald F dX8_walkers_10 sh_203 (by omega) (by decide) ?_
      refine q_top (.int (nI (V_n v))) (congrArg Value.int (hX.aN)) ?_
      refine n_ge F 38 dX8_walkers_11 (by decide) (by omega) (by omega) (fun c_11 => ?_) (fun c_11 => ?_)
      · omega
      · refine q_iload_n F 1 dX8_walkers_14 rfl rfl ?_
        refine q_aload_n F 0 dX8_walkers_15 rfl rfl ?_
        refine q_iload_n F 2 dX8_walkers_16 rfl rfl ?_
        refine iX8_148 F dX8_walkers_17 (m_isCow hX (show i < V_n v by omega) hn (hk i)) (by decide) sh_202 rfl rfl (Nat.le_of_ble_eq_true rfl) (fun v_17 σ_17 h_17 => ?_)
        obtain ⟨rfl, rfl⟩ := h_17
        refine b_eq F 27 dX8_walkers_20 (by decide) (fun c_20 => ?_) (fun c_20 => ?_)
        · have c_20 := of_decide_eq_false c_20
          refine q_iconst F (nI 1) dX8_walkers_27 (by decide) ?_
          refine q_iload_n F 2 dX8_walkers_28 rfl rfl ?_
          refine q_ishl F dX8_walkers_29 ?_
          refine q_ior F dX8_walkers_30 ?_
          refine q_istore_n1 F dX8_walkers_31 (by decide) rfl ?_
          refine q_iinc2 F _ dX8_walkers_32 (nI_inc _) (by decide) rfl ?_
          refine q_goto F 4 dX8_walkers_35 (by decide) ?_
          have hh := ih (i + 1) (by omega)
          rw [wM, if_pos (by simp [c_20]), ← wM_or (i := i) (by omega)] at hh
          exact hh
        · have c_20 := of_decide_eq_true c_20
          refine q_iconst F (nI 0) dX8_walkers_23 (by decide) ?_
          refine q_goto F 30 dX8_walkers_24 (by decide) ?_
          refine q_ior F dX8_walkers_30 ?_
          refine q_istore_n1 F dX8_walkers_31 (by decide) rfl ?_
          refine q_iinc2 F _ dX8_walkers_32 (nI_inc _) (by decide) rfl ?_
          refine q_goto F 4 dX8_walkers_35 (by decide) ?_
          have hh := ih (i + 1) (by omega)
          rw [wM, if_neg (by simp [c_20])] at hh
          refine vm_lsx (by simp [nI_0]) hh
  refine q_iconst F (nI 0) dX8_walkers_0 (by decide) ?_
  refine q_istore_n1 F dX8_walkers_1 (by decide) rfl ?_
  refine q_iconst F (nI 0) dX8_walkers_2 (by decide) ?_
  refine q_istore_n2 F dX8_walkers_3 (by decide) rfl ?_
  exact L (V_n v) 0 (by omega)
set_option maxHeartbeats 4000000 in
set_option maxRecDepth 100000 in
theorem m_isOut {G : vm_G} {σ : vm_M} {v : vm_V} (hX : mFix σ 0 v) (hn : V_n v ≤ 6) (hk : ∀ p, V_kd v p < 6) {s : Nat} (hs : s < 2 ^ V_n v) : vm_RI G 2 mX8_isOut [.ref 202, .int (nI s)] σ (fun r σ' => r = bI (sCan (V_kd v) (V_n v) s) ∧ σ' = σ) := by
  refine vm_int (y := mX8_isOut) (by decide) (Nat.le_of_ble_eq_true rfl) (ls0 := [some (.ref 202), some (.int (nI s))]) rfl rfl (fun C F K => ?_)
  have F : vm_F G C cX8_isOut RX8 2 _ := F
  show vm_Ex G C 2 0 [some (.ref 202), some (.int (nI s))] [] _
  refine q_iload_n F 1 dX8_isOut_0 rfl rfl ?_
  refine q_aload_n F 0 dX8_isOut_1 rfl rfl ?_
  refine iX8_192 F dX8_isOut_2 (m_walkers hX hn hk) (by decide) sh_202 rfl rfl (Nat.le_of_ble_eq_true rfl) (fun v_2 σ_2 h_2 => ?_)
  obtain ⟨rfl, h_2⟩ := h_2
  obtain rfl := h_2.symm
  refine q_iconst F (-1) dX8_isOut_5 (by decide) ?_
  refine q_ixor F dX8_isOut_6 ?_
  refine q_iand F dX8_isOut_7 ?_
  refine q_if_ne F 15 dX8_isOut_8 (by decide) (fun c_8 => ?_) (fun c_8 => ?_)
  · have h64 := pow6 hn
    rw [out_z s (by omega) _ (wM_64 hn), and_sub hs] at c_8
    have c_8 : sCan (V_kd v) (V_n v) s = false := by simpa using c_8
    refine q_iconst F (nI 0) dX8_isOut_15 (by decide) ?_
    refine K _ _ _ _ ?_ dX8_isOut_16 (by decide)
    exact ⟨by rw [c_8]; decide, rfl⟩
  · have h64 := pow6 hn
    rw [out_z s (by omega) _ (wM_64 hn), and_sub hs] at c_8
    refine q_iconst F (nI 1) dX8_isOut_11 (by decide) ?_
    refine q_goto F 16 dX8_isOut_12 (by decide) ?_
    refine K _ _ _ _ ?_ dX8_isOut_16 (by decide)
    exact ⟨by rw [c_8]; decide, rfl⟩
set_option maxHeartbeats 4000000 in
set_option maxRecDepth 100000 in
theorem m_setOut {G : vm_G} {σ : vm_M} {v : vm_V} (hX : mFix σ 0 v) (hn : V_n v ≤ 6) (hk : ∀ p, V_kd v p < 6) (hM2 : mMov σ 203 (0 + 5) v) {s : Nat} (hs : s < 2 ^ V_n v) : vm_RV G 2 mX8_setOut [.ref 202, .int (nI s)] σ (fun σ' => (sCan (V_kd v) (V_n v) s = true → mMov σ' 203 (93 + 5) (sOut s v)) ∧ mFix σ' 0 v ∧ mTr3 σ σ') := by
  refine vm_void (y := mX8_setOut) (by decide) (Nat.le_of_ble_eq_true rfl) (ls0 := [some (.ref 202), some (.int (nI s)), none]) rfl rfl (fun C F K => ?_)
  have F : vm_F G C cX8_setOut RX8 3 _ := F
  show vm_Ex G C 3 0 [some (.ref 202), some (.int (nI s)), none] [] _
  refine q_aload_n F 0 dX8_setOut_0 rfl rfl ?_
  refine q_iconst F (nI 0) dX8_setOut_1 (by decide) ?_
  refine q_iconst F (nI 3) dX8_setOut_2 (by decide) ?_
  refine iX8_186 F dX8_setOut_3 (m_copy0 (f := 0) (t := 3) (by decide) (by decide) (by decide)) (by decide) sh_202 rfl rfl (Nat.le_of_ble_eq_true rfl) (fun σ_3 h_3 => ?_)
  obtain ⟨g1, g2, g3⟩ := h_3
  obtain ⟨hMt, hXt, hFt⟩ := mTried hn hX hM2 g1 g2 g3
  refine q_bipush F (nI 93) dX8_setOut_6 (by decide) ?_
  refine q_istore_n2 F dX8_setOut_8 (by decide) rfl ?_
  refine q_aload_n F 0 dX8_setOut_9 rfl rfl ?_
  refine gX8_7 F dX8_setOut_10 sh_202 rfl ?_
  refine q_iload_n F 2 dX8_setOut_13 rfl rfl ?_
  refine q_bipush F (nI 6) dX8_setOut_14 (by decide) ?_
  refine n_iadd F dX8_setOut_16 ?_
  refine q_aload_n F 0 dX8_setOut_17 rfl rfl ?_
  refine gX8_7 F dX8_setOut_18 sh_202 rfl ?_
  refine q_iload_n F 2 dX8_setOut_21 rfl rfl ?_
  refine q_bipush F (nI 6) dX8_setOut_22 (by decide) ?_
  refine n_iadd F dX8_setOut_24 ?_
  refine q_iald F dX8_setOut_25 sh_203 (by omega) (by decide) ?_
  refine q_top (.int (nI (wM (V_wy v) (V_n v)))) (congrArg Value.int (hMt.aWs)) ?_
  refine q_aload_n F 0 dX8_setOut_26 rfl rfl ?_
  refine iX8_192 F dX8_setOut_27 (m_walkers hXt hn hk) (by decide) sh_202 rfl rfl (Nat.le_of_ble_eq_true rfl) (fun v_27 σ_27 h_27 => ?_)
  obtain ⟨rfl, h_27⟩ := h_27
  obtain rfl := h_27.symm
  refine q_iconst F (-1) dX8_setOut_30 (by decide) ?_
  refine q_ixor F dX8_setOut_31 ?_
  refine q_iand F dX8_setOut_32 ?_
  refine q_iload_n F 1 dX8_setOut_33 rfl rfl ?_
  refine q_ior F dX8_setOut_34 ?_
  refine q_iast F dX8_setOut_35 sh_203 (by omega) (by decide) ?_
  refine K _ _ _ ?_ dX8_setOut_36
  have hf2 : mTr3 σ (vm_upd σ_3 203 (93 + 6) ((nI (wM (V_wy v) (V_n v)) &&& (nI (wM (fun p => !(decide (V_kd v p = 5))) (V_n v)) ^^^ (-1))) ||| nI s)) := ⟨fun o ho => by rw [vm_upd_n _ _ _ ho]; exact hFt.1 o ho, fun j hj => by rw [vm_upd_k _ _ _ (by omega)]; exact hFt.2 j hj⟩
  refine ⟨fun hc => ?_, hX.t3 hf2 hn, hf2⟩
  rw [wM_set hn hs hc]
  obtain ⟨kd, gl, sp, wy, er, top, law, n, gn, fin⟩ := v
  exact hMt.sWs hn _
set_option maxHeartbeats 4000000 in
set_option maxRecDepth 100000 in
theorem m_layNone {G : vm_G} {σ : vm_M} : vm_RV G 0 mX8_layNone [.ref 202] σ (fun σ' => σ' 202 19 = nI 0 ∧ σ' 202 20 = sNONE ∧ mScr σ σ') := by
  refine vm_void (y := mX8_layNone) (by decide) (Nat.le_of_ble_eq_true rfl) (ls0 := [some (.ref 202)]) rfl rfl (fun C F K => ?_)
  have F : vm_F G C cX8_layNone RX8 1 _ := F
  show vm_Ex G C 1 0 [some (.ref 202)] [] _
  refine q_aload_n F 0 dX8_layNone_0 rfl rfl ?_
  refine q_iconst F (nI 0) dX8_layNone_1 (by decide) ?_
  refine pX8_201 F dX8_layNone_2 sh_202 rfl ⟨rfl, rfl⟩ ?_
  refine q_aload_n F 0 dX8_layNone_5 rfl rfl ?_
  refine q_ldc F dX8_layNone_6 wX8_19 ?_
  refine pX8_204 F dX8_layNone_8 sh_202 rfl ⟨rfl, rfl⟩ ?_
  refine K _ _ _ ?_ dX8_layNone_11
  refine ⟨by simp [vm_upd, upd], by simp [vm_upd, upd, sNONE], fun o a b c => by rw [vm_upd_n _ _ _ a, vm_upd_n _ _ _ a], fun k hk => by rw [vm_upd_k _ _ _ (by omega), vm_upd_k _ _ _ (by omega)], fun j hj => by rw [vm_upd_n _ _ _ (by omega), vm_upd_n _ _ _ (by omega)]⟩
set_option maxHeartbeats 4000000 in
set_option maxRecDepth 100000 in
theorem m_layFit {G : vm_G} {σ : vm_M} {t1 : Nat} {t2 : Int32} (h1 : σ 202 19 = nI t1) (h2 : σ 202 20 = t2) (ht : t1 < 2 ^ 31) {w : Bool} {y : Int32} (hy : y = bI w) (x : Int32) : vm_RV G 0 mX8_layFit [.ref 202, .int y, .int x] σ (fun σ' => σ' 202 19 = nI (if w = true then (t1 + 1, if t1 = 0 then x else t2) else (t1, t2)).1 ∧ σ' 202 20 = (if w = true then (t1 + 1, if t1 = 0 then x else t2) else (t1, t2)).2 ∧ mScr σ σ') := by
  refine vm_void (y := mX8_layFit) (by decide) (Nat.le_of_ble_eq_true rfl) (ls0 := [some (.ref 202), some (.int y), some (.int x)]) rfl rfl (fun C F K => ?_)
  have F : vm_F G C cX8_layFit RX8 3 _ := F
  show vm_Ex G C 3 0 [some (.ref 202), some (.int y), some (.int x)] [] _
  subst hy
  have J20 : ∀ y, y = (if w = true ∧ t1 = 0 then x else t2) → vm_Ex G C 3 20 [some (.ref 202), some (.int (bI w)), some (.int x)] [.int y, .ref 202] σ := by
    intro y hy
    refine pX8_204 F dX8_layFit_20 sh_202 rfl ⟨rfl, rfl⟩ ?_
    refine q_aload_n F 0 dX8_layFit_23 rfl rfl ?_
    refine q_dup F dX8_layFit_24 rfl ?_
    refine gX8_201 F dX8_layFit_25 sh_202 rfl ?_
    refine q_top (.int (nI t1)) (congrArg Value.int (by rw [vm_upd_k _ _ _ (by omega)]; exact h1)) ?_
    refine q_iload_n F 1 dX8_layFit_28 rfl rfl ?_
    refine b_eq F 36 dX8_layFit_29 (by decide) (fun c_29 => ?_) (fun c_29 => ?_)
    · refine q_iconst F (nI 0) dX8_layFit_36 (by decide) ?_
      refine n_iadd F dX8_layFit_37 ?_
      refine pX8_201 F dX8_layFit_38 sh_202 rfl ⟨rfl, rfl⟩ ?_
      refine K _ _ _ ?_ dX8_layFit_41
      subst hy
      refine ⟨?_, ?_, fun o a b c => by rw [vm_upd_n _ _ _ a, vm_upd_n _ _ _ a], fun k hk => by rw [vm_upd_k _ _ _ (by omega), vm_upd_k _ _ _ (by omega)], fun j hj => by rw [vm_upd_n _ _ _ (by omega), vm_upd_n _ _ _ (by omega)]⟩
      · simp [vm_upd, upd, c_29]
      · rw [vm_upd_k _ _ _ (by omega)]
        simp only [vm_upd, upd, if_true]
        rw [c_29]
        by_cases h0 : t1 = 0 <;> simp [h0]
    · refine q_iconst F (nI 1) dX8_layFit_32 (by decide) ?_
      refine q_goto F 37 dX8_layFit_33 (by decide) ?_
      refine n_iadd F dX8_layFit_37 ?_
      refine pX8_201 F dX8_layFit_38 sh_202 rfl ⟨rfl, rfl⟩ ?_
      refine K _ _ _ ?_ dX8_layFit_41
      subst hy
      refine ⟨?_, ?_, fun o a b c => by rw [vm_upd_n _ _ _ a, vm_upd_n _ _ _ a], fun k hk => by rw [vm_upd_k _ _ _ (by omega), vm_upd_k _ _ _ (by omega)], fun j hj => by rw [vm_upd_n _ _ _ (by omega), vm_upd_n _ _ _ (by omega)]⟩
      · simp [vm_upd, upd, c_29]
      · rw [vm_upd_k _ _ _ (by omega)]
        simp only [vm_upd, upd, if_true]
        rw [c_29]
        by_cases h0 : t1 = 0 <;> simp [h0]
  refine q_aload_n F 0 dX8_layFit_0 rfl rfl ?_
  refine q_iload_n F 1 dX8_layFit_1 rfl rfl ?_
  refine b_eq F 16 dX8_layFit_2 (by decide) (fun c_2 => ?_) (fun c_2 => ?_)
  · refine q_aload_n F 0 dX8_layFit_16 rfl rfl ?_
    refine gX8_204 F dX8_layFit_17 sh_202 rfl ?_
    refine q_top (.int (t2)) (congrArg Value.int (h2)) ?_
    exact J20 _ (by simp [c_2])
  · refine q_aload_n F 0 dX8_layFit_5 rfl rfl ?_
    refine gX8_201 F dX8_layFit_6 sh_202 rfl ?_
    refine q_top (.int (nI t1)) (congrArg Value.int (h1)) ?_
    refine z_ne F 16 dX8_layFit_9 (by decide) (by omega) (fun c_9 => ?_) (fun c_9 => ?_)
    · refine q_aload_n F 0 dX8_layFit_16 rfl rfl ?_
      refine gX8_204 F dX8_layFit_17 sh_202 rfl ?_
      refine q_top (.int (t2)) (congrArg Value.int (h2)) ?_
      exact J20 _ (by simp [c_2, c_9])
    · refine q_iload_n F 2 dX8_layFit_12 rfl rfl ?_
      refine q_goto F 20 dX8_layFit_13 (by decide) ?_
      exact J20 _ (by simp [c_2, c_9])
theorem fin_all {v : vm_V} {n : Nat} (h : sG v) (en : V_n v = n) : V_fin v &&& nI (2 ^ n - 1) = nI (2 ^ n - 1) ↔ V_fin v = nI (2 ^ n - 1) := by
  subst en
  obtain ⟨m, hm64, hm, e⟩ := fin_of h
  have h64 := pow6 h.1.1
  rw [e, and64 m hm64 _ (by omega)]
  have : m &&& (2 ^ V_n v - 1) = m := by
    rw [Nat.and_two_pow_sub_one_eq_mod]
    exact Nat.mod_eq_of_lt hm
  rw [this]
theorem sSoon_no2 (v : vm_V) : ∀ i, i ≤ 2 ^ 30 → ((sSoon v i).2 = sNONE ∧ (sSoon v i).1 = 121) ∨ ((sSoon v i).2 ≠ sNONE ∧ (sSoon v i).1 < 121)
  | 0, _ => Or.inl ⟨rfl, rfl⟩
  | s + 1, hs => by
    have ih := sSoon_no2 v s (by omega)
    have hle := sSoon_le v s
    unfold sSoon
    split
    · next h => exact Or.inr ⟨nI_neN (by omega), by show sF _ _ < 121; omega⟩
    · exact ih
theorem sSoon_no (v : vm_V) (i : Nat) (hi : i ≤ 2 ^ 30) (h : (sSoon v i).2 = sNONE) : (sSoon v i).1 = 121 := by
  rcases sSoon_no2 v i hi with q | q
  · exact q.2
  · exact absurd h q.1
theorem sSoon_yes (v : vm_V) (i : Nat) (hi : i ≤ 2 ^ 30) (h : ¬ (sSoon v i).2 = sNONE) : (sSoon v i).1 < 121 := by
  rcases sSoon_no2 v i hi with q | q
  · exact absurd q.1 h
  · exact q.2
set_option maxHeartbeats 4000000 in
set_option maxRecDepth 100000 in
theorem m_soon {G : vm_G} {σ : vm_M} {T : vm_T} (hM : MInv σ T) (hI : SInv T) (x : Int32) : vm_RI G 3 mX8_soon [.ref 202, .int x] σ (mPost σ (aSoon T x)) := by
  refine vm_int (y := mX8_soon) (by decide) (Nat.le_of_ble_eq_true rfl) (ls0 := [some (.ref 202), some (.int x), none, none, none, none, none]) rfl rfl (fun C F K => ?_)
  have F : vm_F G C cX8_soon RX8 7 _ := F
  show vm_Ex G C 7 0 [some (.ref 202), some (.int x), none, none, none, none, none] [] _
  obtain ⟨hR, hTp, ⟨hHp, hS⟩, hPs, hIm, hTr, hFl, hFn⟩ := id hM
  have hX := hS.1
  have hM2 : mMov σ 203 (0 + 5) (T_nw T) := hS.2.2
  have hG := hI.1
  have hOk := hG.1
  have hn : V_n (T_nw T) ≤ 6 := hOk.1
  refine q_aload_n F 0 dX8_soon_0 rfl rfl ?_
  refine gX8_7 F dX8_soon_1 sh_202 rfl ?_
  refine q_iconst F (nI 0) dX8_soon_4 (by decide) ?_
  refine q_iald F dX8_soon_5 sh_203 (by omega) (by decide) ?_
  refine q_top (.int (bI (T_hp T))) (congrArg Value.int (hHp)) ?_
  refine b_ne F 12 dX8_soon_6 (by decide) (fun c_6 => ?_) (fun c_6 => ?_)
  · refine q_iload_n F 1 dX8_soon_12 rfl rfl ?_
    refine q_i2l F dX8_soon_13 ?_
    refine q_lconst F (lN 0) dX8_soon_14 (by decide) ?_
    refine q_lconst F (lN 1) dX8_soon_15 (by decide) ?_
    refine iX8_42 F dX8_soon_16 (m_in _ _ _) (by decide) rfl rfl (Nat.le_of_ble_eq_true rfl) (fun v_16 σ_16 h_16 => ?_)
    obtain ⟨rfl, h_16⟩ := h_16
    obtain rfl := h_16.symm
    refine q_top (.int (bI (wi x 2))) (congrArg Value.int (by rw [in_wi (n := 2) (by decide) (by decide)])) ?_
    refine b_ne F 25 dX8_soon_19 (by decide) (fun c_19 => ?_) (fun c_19 => ?_)
    · obtain ⟨w, hpw, rfl⟩ := wi_of c_19
      have hxw := xN_nI (show w < 2 ^ 31 by omega)
      have h64 := pow6 hn
      have h1 : 1 ≤ 2 ^ V_n (T_nw T) := Nat.one_le_two_pow
      refine q_iconst F (nI 1) dX8_soon_25 (by decide) ?_
      refine q_aload_n F 0 dX8_soon_26 rfl rfl ?_
      refine gX8_7 F dX8_soon_27 sh_202 rfl ?_
      refine q_iconst F (nI 3) dX8_soon_30 (by decide) ?_
      refine q_iald F dX8_soon_31 sh_203 (by omega) (by decide) ?_
      refine q_top (.int (nI (V_n (T_nw T)))) (congrArg Value.int (hX.aN)) ?_
      refine q_ishl F dX8_soon_32 ?_
      refine q_top (.int (nI (2 ^ V_n (T_nw T)))) (congrArg Value.int (pow_at _ (by omega))) ?_
      refine q_iconst F (nI 1) dX8_soon_33 (by decide) ?_
      refine n_isub F dX8_soon_34 (by omega) ?_
      refine q_istore_n2 F dX8_soon_35 (by decide) rfl ?_
      refine q_bipush F (nI 121) dX8_soon_36 (by decide) ?_
      refine q_istore_n3 F dX8_soon_38 (by decide) rfl ?_
      refine q_ldc F dX8_soon_39 wX8_19 ?_
      refine q_istore4 F dX8_soon_41 (by decide) rfl ?_
      refine q_iconst F (nI 0) dX8_soon_43 (by decide) ?_
      refine q_istore5 F dX8_soon_44 (by decide) rfl ?_
      have L : ∀ k i, i + k = 2 ^ V_n (T_nw T) → ∀ (u : Option Value) (σ2 : vm_M), mTr3 σ σ2 → vm_Ex G C 7 46 [some (.ref 202), some (.int (nI w)), some (.int (nI (2 ^ V_n (T_nw T) - 1))), some (.int (nI (sSoon (T_nw T) i).1)), some (.int (sSoon (T_nw T) i).2), some (.int (nI i)), u] [] σ2 := by
        intro k
        induction k with
        | zero =>
          intro i hi u σ2 hf
          refine q_iload F 5 dX8_soon_46 rfl ?_
          refine q_iload_n F 2 dX8_soon_48 rfl rfl ?_
          refine n_gt F 127 dX8_soon_49 (by decide) (by omega) (by omega) (fun c_49 => ?_) (fun c_49 => ?_)
          · have e0 : i = 2 ^ V_n (T_nw T) := by omega
            refine q_iload F 4 dX8_soon_127 rfl ?_
            refine q_ldc F dX8_soon_129 wX8_19 ?_
            refine q_icmp_ne F 139 dX8_soon_131 (by decide) (fun c_131 => ?_) (fun c_131 => ?_)
            · refine q_iload_n F 1 dX8_soon_139 rfl rfl ?_
              refine z_ne F 147 dX8_soon_140 (by decide) (by omega) (fun c_140 => ?_) (fun c_140 => ?_)
              · refine q_iload F 4 dX8_soon_147 rfl ?_
                refine K _ _ _ _ ?_ dX8_soon_149 rfl
                have e : aSoon T (nI w) = ((sSoon (T_nw T) i).2, T) := by
                  unfold aSoon
                  rw [if_neg (by simp [c_6]), if_neg (by simp [c_19])]
                  rw [← e0, if_neg (i_ne c_140 (by omega) (by omega))]
                rw [e]
                exact ⟨rfl, hM.t3 hI hf, fun o ho => hf.1 o (by omega)⟩
              · refine q_iload_n F 3 dX8_soon_143 rfl rfl ?_
                refine q_goto F 149 dX8_soon_144 (by decide) ?_
                refine K _ _ _ _ ?_ dX8_soon_149 rfl
                have e : aSoon T (nI w) = (nI (sSoon (T_nw T) i).1, T) := by
                  unfold aSoon
                  rw [if_neg (by simp [c_6]), if_neg (by simp [c_19])]
                  rw [← e0, if_pos (by rw [c_140]), if_pos (by have := sSoon_yes (T_nw T) i (by omega) c_131; omega)]
                rw [e]
                exact ⟨rfl, hM.t3 hI hf, fun o ho => hf.1 o (by omega)⟩
            · refine q_ldc F dX8_soon_134 wX8_19 ?_
              refine q_goto F 149 dX8_soon_136 (by decide) ?_
              refine K _ _ _ _ ?_ dX8_soon_149 rfl
              have e : aSoon T (nI w) = (sNONE, T) := by
                unfold aSoon
                rw [if_neg (by simp [c_6]), if_neg (by simp [c_19])]
                rw [← e0]
                have h2 : (sSoon (T_nw T) i).2 = sNONE := c_131
                have h1 := sSoon_no (T_nw T) i (by omega) h2
                rw [h2, h1]
                by_cases hw : nI w = nI 0 <;> simp [hw]
              rw [e]
              exact ⟨rfl, hM.t3 hI hf, fun o ho => hf.1 o (by omega)⟩
          · omega
        | succ k ih =>
          intro i hi u σ2 hf
          refine q_iload F 5 dX8_soon_46 rfl ?_
          refine q_iload_n F 2 dX8_soon_48 rfl rfl ?_
          refine n_gt F 127 dX8_soon_49 (by decide) (by omega) (by omega) (fun c_49 => ?_) (fun c_49 => ?_)
          · omega
          · have his : i < 2 ^ V_n (T_nw T) := by omega
            have hle := sSoon_le (T_nw T) i
            have hX2 := hX.t3 hf hn
            refine q_aload_n F 0 dX8_soon_52 rfl rfl ?_
            refine q_iload F 5 dX8_soon_53 rfl ?_
            refine iX8_195 F dX8_soon_55 (m_isOut hX2 hn hOk.2.2.1 his) (by decide) sh_202 rfl rfl (Nat.le_of_ble_eq_true rfl) (fun v_55 σ_55 h_55 => ?_)
            obtain ⟨rfl, h_55⟩ := h_55
            obtain rfl := h_55.symm
            refine b_eq F 65 dX8_soon_58 (by decide) (fun c_58 => ?_) (fun c_58 => ?_)
            · refine q_iload_n F 3 dX8_soon_65 rfl rfl ?_
              refine q_istore6 F dX8_soon_66 (by decide) rfl ?_
              refine q_aload_n F 0 dX8_soon_68 rfl rfl ?_
              refine q_iload F 5 dX8_soon_69 rfl ?_
              refine q_aload_n F 0 dX8_soon_71 rfl rfl ?_
              refine iX8_192 F dX8_soon_72 (m_walkers hX2 hn hOk.2.2.1) (by decide) sh_202 rfl rfl (Nat.le_of_ble_eq_true rfl) (fun v_72 σ_72 h_72 => ?_)
              obtain ⟨rfl, h_72⟩ := h_72
              obtain rfl := h_72.symm
              refine q_iand F dX8_soon_75 ?_
              refine q_top (.int (nI (i &&& wM (fun p => !(decide (V_kd (T_nw T) p = 5))) (V_n (T_nw T))))) (congrArg Value.int (by have := pow6 hn; exact and64 i (by omega) _ (wM_64 hn))) ?_
              refine iX8_198 F dX8_soon_76 (m_setOut hX2 hn hOk.2.2.1 (mMov.sc hM2 hf.sc hn) (s := i &&& wM (fun p => !(decide (V_kd (T_nw T) p = 5))) (V_n (T_nw T))) (Nat.and_lt_two_pow _ (wM_lt _ _))) (by decide) sh_202 rfl rfl (Nat.le_of_ble_eq_true rfl) (fun σ_76 h_76 => ?_)
              obtain ⟨hMo, hXo, hf3⟩ := h_76
              have e9 : (sSoon (T_nw T) (i + 1)) = (sSoon (T_nw T) i) := sSoon_n1 c_58
              refine q_iload F 6 dX8_soon_79 rfl ?_
              refine q_iload_n F 3 dX8_soon_81 rfl rfl ?_
              refine n_ge F 108 dX8_soon_82 (by decide) (by omega) (by omega) (fun c_82 => ?_) (fun c_82 => ?_)
              · refine q_iload F 6 dX8_soon_108 rfl ?_
                refine q_iload_n F 3 dX8_soon_110 rfl rfl ?_
                refine n_ge F 121 dX8_soon_111 (by decide) (by omega) (by omega) (fun c_111 => ?_) (fun c_111 => ?_)
                · refine q_iinc5 F _ dX8_soon_121 (nI_inc _) (by decide) rfl ?_
                  refine q_goto F 46 dX8_soon_124 (by decide) ?_
                  have hh2 := ih (i + 1) (by omega) (some (.int (nI (sSoon (T_nw T) i).1))) _ (hf.tr hf3)
                  rw [e9] at hh2
                  exact hh2
                · omega
              · omega
            · refine q_iconst F (nI 0) dX8_soon_61 (by decide) ?_
              refine q_goto F 66 dX8_soon_62 (by decide) ?_
              refine q_istore6 F dX8_soon_66 (by decide) rfl ?_
              refine q_aload_n F 0 dX8_soon_68 rfl rfl ?_
              refine q_iload F 5 dX8_soon_69 rfl ?_
              refine q_aload_n F 0 dX8_soon_71 rfl rfl ?_
              refine iX8_192 F dX8_soon_72 (m_walkers hX2 hn hOk.2.2.1) (by decide) sh_202 rfl rfl (Nat.le_of_ble_eq_true rfl) (fun v_72 σ_72 h_72 => ?_)
              obtain ⟨rfl, h_72⟩ := h_72
              obtain rfl := h_72.symm
              refine q_iand F dX8_soon_75 ?_
              refine q_top (.int (nI (i &&& wM (fun p => !(decide (V_kd (T_nw T) p = 5))) (V_n (T_nw T))))) (congrArg Value.int (by have := pow6 hn; exact and64 i (by omega) _ (wM_64 hn))) ?_
              refine iX8_198 F dX8_soon_76 (m_setOut hX2 hn hOk.2.2.1 (mMov.sc hM2 hf.sc hn) (s := i &&& wM (fun p => !(decide (V_kd (T_nw T) p = 5))) (V_n (T_nw T))) (Nat.and_lt_two_pow _ (wM_lt _ _))) (by decide) sh_202 rfl rfl (Nat.le_of_ble_eq_true rfl) (fun σ_76 h_76 => ?_)
              obtain ⟨hMo, hXo, hf3⟩ := h_76
              have hcan := c_58
              rw [(and_sub his).mpr hcan] at hMo
              have LI : ∀ k2 u, u + k2 = (sSoon (T_nw T) i).1 → ∀ σ3 : vm_M, mMov σ3 203 (93 + 5) (sHs u (sOut i (T_nw T))) → mTr3 σ2 σ3 → (∀ j, j < u → ((fun k => decide (V_fin (sHs k (sOut i (T_nw T))) &&& nI (2 ^ V_n (T_nw T) - 1) = nI (2 ^ V_n (T_nw T) - 1))) j) = false) → vm_Ex G C 7 79 [some (.ref 202), some (.int (nI w)), some (.int (nI (2 ^ V_n (T_nw T) - 1))), some (.int (nI (sSoon (T_nw T) i).1)), some (.int (sSoon (T_nw T) i).2), some (.int (nI i)), some (.int (nI u))] [] σ3 := by
                intro k2
                induction k2 with
                | zero =>
                  intro u hu σ3 hMi hf3 hh
                  refine q_iload F 6 dX8_soon_79 rfl ?_
                  refine q_iload_n F 3 dX8_soon_81 rfl rfl ?_
                  refine n_ge F 108 dX8_soon_82 (by decide) (by omega) (by omega) (fun c_82 => ?_) (fun c_82 => ?_)
                  · have e9 : (sSoon (T_nw T) (i + 1)) = (sSoon (T_nw T) i) := sSoon_n2 (by rw [sF_none (fun j hj => hh j (by omega))]; omega)
                    refine q_iload F 6 dX8_soon_108 rfl ?_
                    refine q_iload_n F 3 dX8_soon_110 rfl rfl ?_
                    refine n_ge F 121 dX8_soon_111 (by decide) (by omega) (by omega) (fun c_111 => ?_) (fun c_111 => ?_)
                    · refine q_iinc5 F _ dX8_soon_121 (nI_inc _) (by decide) rfl ?_
                      refine q_goto F 46 dX8_soon_124 (by decide) ?_
                      have hh2 := ih (i + 1) (by omega) (some (.int (nI u))) _ (hf.tr hf3)
                      rw [e9] at hh2
                      exact hh2
                    · omega
                  · omega
                | succ k2 ih2 =>
                  intro u hu σ3 hMi hf3 hh
                  refine q_iload F 6 dX8_soon_79 rfl ?_
                  refine q_iload_n F 3 dX8_soon_81 rfl rfl ?_
                  refine n_ge F 108 dX8_soon_82 (by decide) (by omega) (by omega) (fun c_82 => ?_) (fun c_82 => ?_)
                  · omega
                  · refine q_aload_n F 0 dX8_soon_85 rfl rfl ?_
                    refine gX8_7 F dX8_soon_86 sh_202 rfl ?_
                    refine q_bipush F (nI 98) dX8_soon_89 (by decide) ?_
                    refine q_iald F dX8_soon_91 sh_203 (by omega) (by decide) ?_
                    refine q_top (.int (V_fin (sHs u (sOut i (T_nw T))))) (congrArg Value.int (hMi.aFin)) ?_
                    refine q_iload_n F 2 dX8_soon_92 rfl rfl ?_
                    refine q_icmp_eq F 108 dX8_soon_93 (by decide) (fun c_93 => ?_) (fun c_93 => ?_)
                    · have e9 : (sSoon (T_nw T) (i + 1)) = (u, nI i) := sSoon_y hcan (sF_at (i := u) hh (decide_eq_true ((fin_all (n := V_n (T_nw T)) (sG_Hs (sG_out hG i) u) (sHs_n _ u)).mpr c_93)) (by omega)) (by omega)
                      refine q_iload F 6 dX8_soon_108 rfl ?_
                      refine q_iload_n F 3 dX8_soon_110 rfl rfl ?_
                      refine n_ge F 121 dX8_soon_111 (by decide) (by omega) (by omega) (fun c_111 => ?_) (fun c_111 => ?_)
                      · omega
                      · refine q_iload F 6 dX8_soon_114 rfl ?_
                        refine q_istore_n3 F dX8_soon_116 (by decide) rfl ?_
                        refine q_iload F 5 dX8_soon_117 rfl ?_
                        refine q_istore4 F dX8_soon_119 (by decide) rfl ?_
                        refine q_iinc5 F _ dX8_soon_121 (nI_inc _) (by decide) rfl ?_
                        refine q_goto F 46 dX8_soon_124 (by decide) ?_
                        have hh2 := ih (i + 1) (by omega) (some (.int (nI u))) _ (hf.tr hf3)
                        rw [e9] at hh2
                        exact hh2
                    · refine q_aload_n F 0 dX8_soon_96 rfl rfl ?_
                      refine q_bipush F (nI 93) dX8_soon_97 (by decide) ?_
                      refine iX8_165 F dX8_soon_99 (m_halfs (v := sOut i (T_nw T)) (b := 93) ((hX2.t3 hf3 hn)) hMi (Or.inr rfl) hOk) (by decide) sh_202 rfl rfl (Nat.le_of_ble_eq_true rfl) (fun σ_99 h_99 => ?_)
                      obtain ⟨hM4, hf4⟩ := h_99
                      refine q_iinc6 F _ dX8_soon_102 (nI_inc _) (by decide) rfl ?_
                      refine q_goto F 79 dX8_soon_105 (by decide) ?_
                      exact ih2 (u + 1) (by omega) _ hM4 (hf3.tr hf4.t3) (fun j hj => by
                        rcases Nat.lt_or_ge j u with q | q
                        · exact hh j q
                        · rw [show j = u by omega]
                          exact decide_eq_false (fun z => c_93 ((fin_all (n := V_n (T_nw T)) (sG_Hs (sG_out hG i) u) (sHs_n _ u)).mp z)))
              exact LI (sSoon (T_nw T) i).1 0 (by omega) _ (hMo hcan) hf3 (fun j hj => absurd hj (Nat.not_lt_zero _))
      exact L (2 ^ V_n (T_nw T)) 0 (by omega) _ _ mTr3.rf
    · refine q_ldc F dX8_soon_22 wX8_52 ?_
      refine K _ _ _ _ ?_ dX8_soon_24 rfl
      have e : aSoon T x = (sBAD, T) := by
        simp [aSoon, c_6, c_19]
      rw [e]
      exact ⟨rfl, hM, fun _ _ => rfl⟩
  · refine q_ldc F dX8_soon_9 wX8_159 ?_
    refine K _ _ _ _ ?_ dX8_soon_11 rfl
    have e : aSoon T x = (sSTATE, T) := by
      simp [aSoon, c_6]
    rw [e]
    exact ⟨rfl, hM, fun _ _ => rfl⟩
set_option maxHeartbeats 4000000 in
set_option maxRecDepth 100000 in
theorem m_clean {G : vm_G} {σ : vm_M} {T : vm_T} (hM : MInv σ T) (hI : SInv T) (x y n w : Int32) : vm_RI G 4 mX8_clean [.ref 202, .int x, .int y, .int n, .int w] σ (mPost σ (aClean T x y n w)) := by
  refine vm_int (y := mX8_clean) (by decide) (Nat.le_of_ble_eq_true rfl) (ls0 := [some (.ref 202), some (.int x), some (.int y), some (.int n), some (.int w), none]) rfl rfl (fun C F K => ?_)
  have F : vm_F G C cX8_clean RX8 6 _ := F
  show vm_Ex G C 6 0 [some (.ref 202), some (.int x), some (.int y), some (.int n), some (.int w), none] [] _
  obtain ⟨hR, hTp, ⟨hHp, hS⟩, hPs, hIm, hTr, hFl, hFn⟩ := id hM
  have hX := hS.1
  have hM2 : mMov σ 203 (0 + 5) (T_nw T) := hS.2.2
  have hG := hI.1
  have hOk := hG.1
  have hn : V_n (T_nw T) ≤ 6 := hOk.1
  refine q_aload_n F 0 dX8_clean_0 rfl rfl ?_
  refine q_iload_n F 1 dX8_clean_1 rfl rfl ?_
  refine iX8_168 F dX8_clean_2 (m_isPerson hX.aN hn _) (by decide) sh_202 rfl rfl (Nat.le_of_ble_eq_true rfl) (fun v_2 σ_2 h_2 => ?_)
  obtain ⟨rfl, h_2⟩ := h_2
  obtain rfl := h_2.symm
  refine b_eq F 46 dX8_clean_5 (by decide) (fun c_5 => ?_) (fun c_5 => ?_)
  · refine q_ldc F dX8_clean_46 wX8_52 ?_
    refine K _ _ _ _ ?_ dX8_clean_48 rfl
    have e : aClean T x y n w = (sBAD, T) := by
      simp [aClean, c_5]
    rw [e]
    exact ⟨rfl, hM, fun _ _ => rfl⟩
  · obtain ⟨p, hpp, rfl⟩ := wi_of c_5
    have hxp := xN_nI (show p < 2 ^ 31 by omega)
    refine q_iload_n F 2 dX8_clean_8 rfl rfl ?_
    refine q_i2l F dX8_clean_9 ?_
    refine q_lconst F (lN 0) dX8_clean_10 (by decide) ?_
    refine q_iconst F (nI 1) dX8_clean_11 (by decide) ?_
    refine q_aload_n F 0 dX8_clean_12 rfl rfl ?_
    refine gX8_7 F dX8_clean_13 sh_202 rfl ?_
    refine q_iconst F (nI 3) dX8_clean_16 (by decide) ?_
    refine q_iald F dX8_clean_17 sh_203 (by omega) (by decide) ?_
    refine q_top (.int (nI (V_n (T_nw T)))) (congrArg Value.int (hX.aN)) ?_
    refine q_ishl F dX8_clean_18 ?_
    refine q_top (.int (nI (2 ^ V_n (T_nw T)))) (congrArg Value.int (pow_at _ (by omega))) ?_
    refine q_iconst F (nI 1) dX8_clean_19 (by decide) ?_
    refine q_isub F dX8_clean_20 ?_
    refine q_i2l F dX8_clean_21 ?_
    refine iX8_42 F dX8_clean_22 (m_in _ _ _) (by decide) rfl rfl (Nat.le_of_ble_eq_true rfl) (fun v_22 σ_22 h_22 => ?_)
    obtain ⟨rfl, h_22⟩ := h_22
    obtain rfl := h_22.symm
    refine q_top (.int (bI (wi y (2 ^ V_n (T_nw T))))) (congrArg Value.int (by rw [in_wi (n := 2 ^ V_n (T_nw T)) (by decide) (sz_m2 _ (by have := pow6 hn; omega))])) ?_
    refine b_eq F 46 dX8_clean_25 (by decide) (fun c_25 => ?_) (fun c_25 => ?_)
    · refine q_ldc F dX8_clean_46 wX8_52 ?_
      refine K _ _ _ _ ?_ dX8_clean_48 rfl
      have e : aClean T (nI p) y n w = (sBAD, T) := by
        simp [aClean, c_5, c_25]
      rw [e]
      exact ⟨rfl, hM, fun _ _ => rfl⟩
    · have h64 := pow6 hn
      obtain ⟨q, hpq, rfl⟩ := wi_of c_25
      have hxq := xN_nI (show q < 2 ^ 31 by omega)
      have h1 : 1 ≤ 2 ^ V_n (T_nw T) := Nat.one_le_two_pow
      refine q_iload_n F 3 dX8_clean_28 rfl rfl ?_
      refine iX8_183 F dX8_clean_29 (m_isAhead _) (by decide) rfl rfl (Nat.le_of_ble_eq_true rfl) (fun v_29 σ_29 h_29 => ?_)
      obtain ⟨rfl, h_29⟩ := h_29
      obtain rfl := h_29.symm
      refine b_eq F 46 dX8_clean_32 (by decide) (fun c_32 => ?_) (fun c_32 => ?_)
      · refine q_ldc F dX8_clean_46 wX8_52 ?_
        refine K _ _ _ _ ?_ dX8_clean_48 rfl
        have e : aClean T (nI p) (nI q) n w = (sBAD, T) := by
          simp [aClean, c_5, c_25, c_32]
        rw [e]
        exact ⟨rfl, hM, fun _ _ => rfl⟩
      · obtain ⟨m, hpm, rfl⟩ := wi_of c_32
        have hxm := xN_nI (show m < 2 ^ 31 by omega)
        refine q_iload F 4 dX8_clean_35 rfl ?_
        refine q_i2l F dX8_clean_37 ?_
        refine q_lconst F (lN 0) dX8_clean_38 (by decide) ?_
        refine q_lconst F (lN 1) dX8_clean_39 (by decide) ?_
        refine iX8_42 F dX8_clean_40 (m_in _ _ _) (by decide) rfl rfl (Nat.le_of_ble_eq_true rfl) (fun v_40 σ_40 h_40 => ?_)
        obtain ⟨rfl, h_40⟩ := h_40
        obtain rfl := h_40.symm
        refine q_top (.int (bI (wi w 2))) (congrArg Value.int (by rw [in_wi (n := 2) (by decide) (by decide)])) ?_
        refine b_ne F 49 dX8_clean_43 (by decide) (fun c_43 => ?_) (fun c_43 => ?_)
        · obtain ⟨w, hpw, rfl⟩ := wi_of c_43
          have hxw := xN_nI (show w < 2 ^ 31 by omega)
          refine q_aload_n F 0 dX8_clean_49 rfl rfl ?_
          refine iX8_207 F dX8_clean_50 (m_layNone) (by decide) sh_202 rfl rfl (Nat.le_of_ble_eq_true rfl) (fun σ_50 h_50 => ?_)
          obtain ⟨n1, n2, n3⟩ := h_50
          refine q_iconst F (nI 0) dX8_clean_53 (by decide) ?_
          refine q_istore5 F dX8_clean_54 (by decide) rfl ?_
          have L : ∀ k i, i + k = 2 ^ V_n (T_nw T) → ∀ σ2 : vm_M, σ2 202 19 = nI (sFit (fun s => sCan (V_kd (T_nw T)) (V_n (T_nw T)) s && decide (sS p (sOut s (T_nw T)) m &&& nI q = nI 0)) i).1 → σ2 202 20 = (sFit (fun s => sCan (V_kd (T_nw T)) (V_n (T_nw T)) s && decide (sS p (sOut s (T_nw T)) m &&& nI q = nI 0)) i).2 → mScr σ σ2 → vm_Ex G C 6 56 [some (.ref 202), some (.int (nI p)), some (.int (nI q)), some (.int (nI m)), some (.int (nI w)), some (.int (nI i))] [] σ2 := by
            intro k
            induction k with
            | zero =>
              intro i hi σ2 g1 g2 hf
              have hX2 := hX.sc hf hn
              refine q_iload F 5 dX8_clean_56 rfl ?_
              refine q_iconst F (nI 1) dX8_clean_58 (by decide) ?_
              refine q_aload_n F 0 dX8_clean_59 rfl rfl ?_
              refine gX8_7 F dX8_clean_60 sh_202 rfl ?_
              refine q_iconst F (nI 3) dX8_clean_63 (by decide) ?_
              refine q_iald F dX8_clean_64 sh_203 (by omega) (by decide) ?_
              refine q_top (.int (nI (V_n (T_nw T)))) (congrArg Value.int (hX2.aN)) ?_
              refine q_ishl F dX8_clean_65 ?_
              refine q_top (.int (nI (2 ^ V_n (T_nw T)))) (congrArg Value.int (pow_at _ (by omega))) ?_
              refine n_ge F 112 dX8_clean_66 (by decide) (by omega) (by omega) (fun c_66 => ?_) (fun c_66 => ?_)
              · refine q_iload F 4 dX8_clean_112 rfl ?_
                refine z_ne F 124 dX8_clean_114 (by decide) (by omega) (fun c_114 => ?_) (fun c_114 => ?_)
                · refine q_aload_n F 0 dX8_clean_124 rfl rfl ?_
                  refine gX8_204 F dX8_clean_125 sh_202 rfl ?_
                  refine K _ _ _ _ ?_ dX8_clean_128 rfl
                  have e0 : i = 2 ^ V_n (T_nw T) := by omega
                  have e : aClean T (nI p) (nI q) (nI m) (nI w) = (sTold (sFit (fun s => sCan (V_kd (T_nw T)) (V_n (T_nw T)) s && decide (sS p (sOut s (T_nw T)) m &&& nI q = nI 0)) i) (nI w), T) := by
                    unfold aClean
                    rw [hxp, hxm, e0, if_neg (by simp [c_5, c_25, c_32, c_43])]
                  rw [e]
                  exact ⟨by rw [g2, sTold, if_neg (i_ne c_114 (by omega) (by omega))], hM.sc hI hf, fun o ho => hf.1 o (by omega) (by omega) (by omega)⟩
                · refine q_aload_n F 0 dX8_clean_117 rfl rfl ?_
                  refine gX8_201 F dX8_clean_118 sh_202 rfl ?_
                  refine q_goto F 128 dX8_clean_121 (by decide) ?_
                  refine K _ _ _ _ ?_ dX8_clean_128 rfl
                  have e0 : i = 2 ^ V_n (T_nw T) := by omega
                  have e : aClean T (nI p) (nI q) (nI m) (nI w) = (sTold (sFit (fun s => sCan (V_kd (T_nw T)) (V_n (T_nw T)) s && decide (sS p (sOut s (T_nw T)) m &&& nI q = nI 0)) i) (nI w), T) := by
                    unfold aClean
                    rw [hxp, hxm, e0, if_neg (by simp [c_5, c_25, c_32, c_43])]
                  rw [e]
                  exact ⟨by rw [g1, sTold, if_pos (by rw [c_114])], hM.sc hI hf, fun o ho => hf.1 o (by omega) (by omega) (by omega)⟩
              · omega
            | succ k ih =>
              intro i hi σ2 g1 g2 hf
              have hX2 := hX.sc hf hn
              refine q_iload F 5 dX8_clean_56 rfl ?_
              refine q_iconst F (nI 1) dX8_clean_58 (by decide) ?_
              refine q_aload_n F 0 dX8_clean_59 rfl rfl ?_
              refine gX8_7 F dX8_clean_60 sh_202 rfl ?_
              refine q_iconst F (nI 3) dX8_clean_63 (by decide) ?_
              refine q_iald F dX8_clean_64 sh_203 (by omega) (by decide) ?_
              refine q_top (.int (nI (V_n (T_nw T)))) (congrArg Value.int (hX2.aN)) ?_
              refine q_ishl F dX8_clean_65 ?_
              refine q_top (.int (nI (2 ^ V_n (T_nw T)))) (congrArg Value.int (pow_at _ (by omega))) ?_
              refine n_ge F 112 dX8_clean_66 (by decide) (by omega) (by omega) (fun c_66 => ?_) (fun c_66 => ?_)
              · omega
              · have his : i < 2 ^ V_n (T_nw T) := by omega
                refine q_aload_n F 0 dX8_clean_69 rfl rfl ?_
                refine q_iload F 5 dX8_clean_70 rfl ?_
                refine iX8_195 F dX8_clean_72 (m_isOut hX2 hn hOk.2.2.1 his) (by decide) sh_202 rfl rfl (Nat.le_of_ble_eq_true rfl) (fun v_72 σ_72 h_72 => ?_)
                obtain ⟨rfl, h_72⟩ := h_72
                obtain rfl := h_72.symm
                refine b_eq F 106 dX8_clean_75 (by decide) (fun c_75 => ?_) (fun c_75 => ?_)
                · refine q_iinc5 F _ dX8_clean_106 (nI_inc _) (by decide) rfl ?_
                  refine q_goto F 56 dX8_clean_109 (by decide) ?_
                  refine ih (i + 1) (by omega) _ ?_ ?_ hf
                  · rw [sFit_f (f := (fun s => sCan (V_kd (T_nw T)) (V_n (T_nw T)) s && decide (sS p (sOut s (T_nw T)) m &&& nI q = nI 0))) (by rw [c_75]; rfl)]; exact g1
                  · rw [sFit_f (f := (fun s => sCan (V_kd (T_nw T)) (V_n (T_nw T)) s && decide (sS p (sOut s (T_nw T)) m &&& nI q = nI 0))) (by rw [c_75]; rfl)]; exact g2
                · refine q_aload_n F 0 dX8_clean_78 rfl rfl ?_
                  refine q_iload F 5 dX8_clean_79 rfl ?_
                  refine iX8_198 F dX8_clean_81 (m_setOut hX2 hn hOk.2.2.1 (hM2.sc hf hn) his) (by decide) sh_202 rfl rfl (Nat.le_of_ble_eq_true rfl) (fun σ_81 h_81 => ?_)
                  obtain ⟨hMo, hXo, hf3⟩ := h_81
                  refine q_aload_n F 0 dX8_clean_84 rfl rfl ?_
                  refine q_aload_n F 0 dX8_clean_85 rfl rfl ?_
                  refine q_iload_n F 1 dX8_clean_86 rfl rfl ?_
                  refine q_iload_n F 3 dX8_clean_87 rfl rfl ?_
                  refine iX8_189 F dX8_clean_88 (m_secretOf (v := sOut i (T_nw T)) hXo (hMo c_75) (sG_out hG i) (Or.inl hpp) (by omega)) (by decide) sh_202 rfl rfl (Nat.le_of_ble_eq_true rfl) (fun v_88 σ_88 h_88 => ?_)
                  obtain ⟨hr, hMs, hf4⟩ := h_88
                  have hr := hr hpp
                  have hg4 : σ_88 202 19 = σ2 202 19 ∧ σ_88 202 20 = σ2 202 20 := by rw [hf4.1 202 (by omega), hf3.1 202 (by omega)]; exact ⟨rfl, rfl⟩
                  refine q_iload_n F 2 dX8_clean_91 rfl rfl ?_
                  refine q_iand F dX8_clean_92 ?_
                  refine q_if_ne F 100 dX8_clean_93 (by decide) (fun c_93 => ?_) (fun c_93 => ?_)
                  · refine q_iconst F (nI 0) dX8_clean_100 (by decide) ?_
                    refine q_iload F 5 dX8_clean_101 rfl ?_
                    refine iX8_210 F dX8_clean_103 (m_layFit (w := (sCan (V_kd (T_nw T)) (V_n (T_nw T)) i && decide (sS p (sOut i (T_nw T)) m &&& nI q = nI 0))) (hg4.1.trans g1) (hg4.2.trans g2) (by have := sFit_le (fun s => sCan (V_kd (T_nw T)) (V_n (T_nw T)) s && decide (sS p (sOut s (T_nw T)) m &&& nI q = nI 0)) i; omega) (by
            first
              | (rw [show (sCan (V_kd (T_nw T)) (V_n (T_nw T)) i && decide (sS p (sOut i (T_nw T)) m &&& nI q = nI 0)) = true by rw [c_75, ← hr, decide_eq_true (by rw [c_93, nI_0])]; rfl]; decide)
              | (rw [show (sCan (V_kd (T_nw T)) (V_n (T_nw T)) i && decide (sS p (sOut i (T_nw T)) m &&& nI q = nI 0)) = false by rw [c_75, ← hr, decide_eq_false (by rw [nI_0]; exact c_93)]; rfl]; decide)) _) (by decide) sh_202 rfl rfl (Nat.le_of_ble_eq_true rfl) (fun σ_103 h_103 => ?_)
                    obtain ⟨k1, k2, k3⟩ := h_103
                    refine q_iinc5 F _ dX8_clean_106 (nI_inc _) (by decide) rfl ?_
                    refine q_goto F 56 dX8_clean_109 (by decide) ?_
                    refine ih (i + 1) (by omega) _ ?_ ?_ (((hf.tr hf3.sc).tr hf4.sc).tr k3)
                    · rw [k1]; cases hff : (sCan (V_kd (T_nw T)) (V_n (T_nw T)) i && decide (sS p (sOut i (T_nw T)) m &&& nI q = nI 0))
                      · rw [sFit_f (f := (fun s => sCan (V_kd (T_nw T)) (V_n (T_nw T)) s && decide (sS p (sOut s (T_nw T)) m &&& nI q = nI 0))) hff]; rfl
                      · rw [sFit_t (f := (fun s => sCan (V_kd (T_nw T)) (V_n (T_nw T)) s && decide (sS p (sOut s (T_nw T)) m &&& nI q = nI 0))) hff]; rfl
                    · rw [k2]; cases hff : (sCan (V_kd (T_nw T)) (V_n (T_nw T)) i && decide (sS p (sOut i (T_nw T)) m &&& nI q = nI 0))
                      · rw [sFit_f (f := (fun s => sCan (V_kd (T_nw T)) (V_n (T_nw T)) s && decide (sS p (sOut s (T_nw T)) m &&& nI q = nI 0))) hff]; rfl
                      · rw [sFit_t (f := (fun s => sCan (V_kd (T_nw T)) (V_n (T_nw T)) s && decide (sS p (sOut s (T_nw T)) m &&& nI q = nI 0))) hff]; rfl
                  · refine q_iconst F (nI 1) dX8_clean_96 (by decide) ?_
                    refine q_goto F 101 dX8_clean_97 (by decide) ?_
                    refine q_iload F 5 dX8_clean_101 rfl ?_
                    refine iX8_210 F dX8_clean_103 (m_layFit (w := (sCan (V_kd (T_nw T)) (V_n (T_nw T)) i && decide (sS p (sOut i (T_nw T)) m &&& nI q = nI 0))) (hg4.1.trans g1) (hg4.2.trans g2) (by have := sFit_le (fun s => sCan (V_kd (T_nw T)) (V_n (T_nw T)) s && decide (sS p (sOut s (T_nw T)) m &&& nI q = nI 0)) i; omega) (by
            first
              | (rw [show (sCan (V_kd (T_nw T)) (V_n (T_nw T)) i && decide (sS p (sOut i (T_nw T)) m &&& nI q = nI 0)) = true by rw [c_75, ← hr, decide_eq_true (by rw [c_93, nI_0])]; rfl]; decide)
              | (rw [show (sCan (V_kd (T_nw T)) (V_n (T_nw T)) i && decide (sS p (sOut i (T_nw T)) m &&& nI q = nI 0)) = false by rw [c_75, ← hr, decide_eq_false (by rw [nI_0]; exact c_93)]; rfl]; decide)) _) (by decide) sh_202 rfl rfl (Nat.le_of_ble_eq_true rfl) (fun σ_103 h_103 => ?_)
                    obtain ⟨k1, k2, k3⟩ := h_103
                    refine q_iinc5 F _ dX8_clean_106 (nI_inc _) (by decide) rfl ?_
                    refine q_goto F 56 dX8_clean_109 (by decide) ?_
                    refine ih (i + 1) (by omega) _ ?_ ?_ (((hf.tr hf3.sc).tr hf4.sc).tr k3)
                    · rw [k1]; cases hff : (sCan (V_kd (T_nw T)) (V_n (T_nw T)) i && decide (sS p (sOut i (T_nw T)) m &&& nI q = nI 0))
                      · rw [sFit_f (f := (fun s => sCan (V_kd (T_nw T)) (V_n (T_nw T)) s && decide (sS p (sOut s (T_nw T)) m &&& nI q = nI 0))) hff]; rfl
                      · rw [sFit_t (f := (fun s => sCan (V_kd (T_nw T)) (V_n (T_nw T)) s && decide (sS p (sOut s (T_nw T)) m &&& nI q = nI 0))) hff]; rfl
                    · rw [k2]; cases hff : (sCan (V_kd (T_nw T)) (V_n (T_nw T)) i && decide (sS p (sOut i (T_nw T)) m &&& nI q = nI 0))
                      · rw [sFit_f (f := (fun s => sCan (V_kd (T_nw T)) (V_n (T_nw T)) s && decide (sS p (sOut s (T_nw T)) m &&& nI q = nI 0))) hff]; rfl
                      · rw [sFit_t (f := (fun s => sCan (V_kd (T_nw T)) (V_n (T_nw T)) s && decide (sS p (sOut s (T_nw T)) m &&& nI q = nI 0))) hff]; rfl
          exact L (2 ^ V_n (T_nw T)) 0 (by omega) _ n1 n2 n3
        · refine q_ldc F dX8_clean_46 wX8_52 ?_
          refine K _ _ _ _ ?_ dX8_clean_48 rfl
          have e : aClean T (nI p) (nI q) (nI m) w = (sBAD, T) := by
            simp [aClean, c_5, c_25, c_32, c_43]
          rw [e]
          exact ⟨rfl, hM, fun _ _ => rfl⟩
