/-! ===== THE MODEL'S WALK ===== -/
theorem wM_bit (wy : Nat → Bool) : ∀ n p, (wM wy n).testBit p = (decide (p < n) && wy p)
  | 0, p => by simp [wM]
  | n + 1, p => by
    have ih := wM_bit wy n p
    have hl := wM_lt wy n
    unfold wM
    by_cases h : wy n = true
    · rw [if_pos h]
      have e : wM wy n + 2 ^ n = 2 ^ n ||| wM wy n := by
        have := Nat.two_pow_add_eq_or_of_lt hl 1
        rw [Nat.mul_one] at this
        rw [← this]
        omega
      rw [e, Nat.testBit_or, Nat.testBit_two_pow, ih]
      by_cases e1 : n = p
      · subst e1; simp [h]
      · have e2 : (p < n + 1) = (p < n) := by simp; omega
        simp [e1, e2]
    · rw [if_neg h, ih]
      by_cases e1 : p = n
      · subst e1; simp [h]
      · have e2 : (p < n + 1) = (p < n) := by simp; omega
        simp [e2]
theorem wM_of {wy : Nat → Bool} {n m : Nat} (hm : m < 2 ^ n) (h : ∀ p, p < n → m.testBit p = wy p) : m = wM wy n := by
  refine Nat.eq_of_testBit_eq (fun p => ?_)
  rw [wM_bit]
  by_cases hp : p < n
  · simp [hp, h p hp]
  · have : m.testBit p = false := Nat.testBit_lt_two_pow (Nat.lt_of_lt_of_le hm (Nat.pow_le_pow_right (by omega) (by omega)))
    simp [hp, this]
theorem wM_64 {wy : Nat → Bool} {n : Nat} (hn : n ≤ 6) : wM wy n < 64 := by
  have := wM_lt wy n
  have := pow6 hn
  omega
theorem xor_small : ∀ m, m < 64 → ∀ p, p < 6 → nI m ^^^ (nI 1 <<< (nI p &&& 31)) = nI (m ^^^ 2 ^ p) := by decide +kernel
theorem xor_small2 : ∀ m, m < 64 → ∀ p, p < 6 → ∀ q, q < 6 → p ≠ q → nI m ^^^ (nI 1 <<< (nI p &&& 31) ||| nI 1 <<< (nI q &&& 31)) = nI ((m ^^^ 2 ^ p) ^^^ 2 ^ q) := by decide +kernel
theorem wM_xor {wy : Nat → Bool} {n p : Nat} (hp : p < n) : wM wy n ^^^ 2 ^ p = wM (vm_u wy p (!(wy p))) n := by
  refine wM_of (Nat.xor_lt_two_pow (wM_lt wy n) (Nat.pow_lt_pow_right (by omega) hp)) (fun q hq => ?_)
  rw [Nat.testBit_xor, wM_bit, Nat.testBit_two_pow]
  by_cases e : q = p
  · subst e; simp [hq, vm_u_s]
  · rw [vm_u_n e]
    have : ¬ p = q := fun z => e z.symm
    simp [hq, this]
theorem xm1 {wy : Nat → Bool} {n p : Nat} (hp : p < n) (hn : n ≤ 6) : nI (wM wy n) ^^^ (nI 1 <<< (nI p &&& 31)) = nI (wM (vm_u wy p (!(wy p))) n) := by
  rw [xor_small _ (wM_64 hn) _ (by omega), wM_xor hp]
theorem xm2 {wy : Nat → Bool} {n p q : Nat} (hp : p < n) (hq : q < n) (hn : n ≤ 6) (hpq : p ≠ q) : nI (wM wy n) ^^^ (nI 1 <<< (nI p &&& 31) ||| nI 1 <<< (nI q &&& 31)) = nI (wM (vm_u (vm_u wy p (!(wy p))) q (!(vm_u wy p (!(wy p)) q))) n) := by
  rw [xor_small2 _ (wM_64 hn) _ (by omega) _ (by omega) hpq, wM_xor hp, wM_xor hq]
def mFr (σ σ' : vm_M) (b : Nat) : Prop := (∀ o, o ≠ 203 → σ' o = σ o) ∧ ∀ k, (k < b + 5 ∨ b + 18 < k) → σ' 203 k = σ 203 k
theorem mFr.rf {σ : vm_M} {b : Nat} : mFr σ σ b := ⟨fun _ _ => rfl, fun _ _ => rfl⟩
theorem mFr.tr {σ σ1 σ2 : vm_M} {b : Nat} (h : mFr σ σ1 b) (h2 : mFr σ1 σ2 b) : mFr σ σ2 b := ⟨fun o ho => (h2.1 o ho).trans (h.1 o ho), fun k hk => (h2.2 k hk).trans (h.2 k hk)⟩
theorem mFr.up {σ σ1 : vm_M} {b k : Nat} {x : Int32} (h : mFr σ σ1 b) (h1 : b + 5 ≤ k) (h2 : k ≤ b + 18) : mFr σ (vm_upd σ1 203 k x) b := ⟨fun o ho => by rw [vm_upd_n _ _ _ ho]; exact h.1 o ho, fun j hj => by rw [vm_upd_k _ _ _ (by omega)]; exact h.2 j hj⟩
theorem mFix.fr0 {σ σ' : vm_M} {b : Nat} {v : vm_V} (h : mFix σ 0 v) (hf : mFr σ σ' b) (hb : b = 0 ∨ b = 93) (hn : V_n v ≤ 6) : mFix σ' 0 v := by
  obtain ⟨h1, h2, h3, h4⟩ := h
  have f := hf.2
  refine ⟨(f _ (by omega)).trans h1, (f _ (by omega)).trans h2, (f _ (by omega)).trans h3, fun p hp => ?_⟩
  obtain ⟨h5, h6⟩ := h4 p hp
  exact ⟨(f _ (by omega)).trans h5, (f _ (by omega)).trans h6⟩
section
variable {σ : vm_M} {v : vm_V} {b p : Nat}
theorem mMov.aFin (h : mMov σ 203 (b + 5) v) : σ 203 (b + 5) = V_fin v := h.1
theorem mMov.aWs (h : mMov σ 203 (b + 5) v) : σ 203 (b + 6) = nI (wM (V_wy v) (V_n v)) := h.2.1
theorem mMov.aSp (h : mMov σ 203 (b + 5) v) (hp : p < V_n v) : σ 203 (b + 7 + p) = V_sp v p := (h.2.2.1 p hp).1
theorem mMov.aEr (h : mMov σ 203 (b + 5) v) (hp : p < V_n v) : σ 203 (b + 13 + p) = nI (V_er v p) := (h.2.2.1 p hp).2
theorem mFix.aTop (h : mFix σ 0 v) : σ 203 1 = nI (V_top v) := h.1
theorem mFix.aLaw (h : mFix σ 0 v) : σ 203 2 = nI (V_law v) := h.2.1
theorem mFix.aN (h : mFix σ 0 v) : σ 203 3 = nI (V_n v) := h.2.2.1
theorem mFix.aKd (h : mFix σ 0 v) (hp : p < V_n v) : σ 203 (19 + p) = nI (V_kd v p) := by
  have := (h.2.2.2 p hp).1
  rwa [show 0 + 19 + p = 19 + p by omega] at this
theorem mFix.aGl (h : mFix σ 0 v) (hp : p < V_n v) : σ 203 (25 + p) = V_gl v p := by
  have := (h.2.2.2 p hp).2
  rwa [show 0 + 25 + p = 25 + p by omega] at this
end
section
variable {σ : vm_M} {kd : Nat → Nat} {gl sp : Nat → Int32} {wy : Nat → Bool} {er : Nat → Nat} {top law n gn : Nat} {fin : Int32} {b p q : Nat}
theorem mMov.sFin (h : mMov σ 203 (b + 5) (kd, gl, sp, wy, er, top, law, n, gn, fin)) (hn : n ≤ 6) (x : Int32) : mMov (vm_upd σ 203 (b + 5) x) 203 (b + 5) (kd, gl, sp, wy, er, top, law, n, gn, x) := by
  obtain ⟨h1, h2, h3, z, hz, h4⟩ := h
  refine ⟨by simp [vm_upd, upd], by rw [vm_upd_k _ _ _ (by omega)]; exact h2, fun p hp => ?_, z, hz, by rw [vm_upd_k _ _ _ (by omega)]; exact h4⟩
  rw [vm_upd_k _ _ _ (by omega), vm_upd_k _ _ _ (by omega)]
  exact h3 p hp
theorem mMov.sWs (h : mMov σ 203 (b + 5) (kd, gl, sp, wy, er, top, law, n, gn, fin)) (hn : n ≤ 6) (w : Nat → Bool) : mMov (vm_upd σ 203 (b + 6) (nI (wM w n))) 203 (b + 5) (kd, gl, sp, w, er, top, law, n, gn, fin) := by
  obtain ⟨h1, h2, h3, z, hz, h4⟩ := h
  refine ⟨by rw [vm_upd_k _ _ _ (by omega)]; exact h1, by simp [vm_upd, upd], fun p hp => ?_, z, hz, by rw [vm_upd_k _ _ _ (by omega)]; exact h4⟩
  rw [vm_upd_k _ _ _ (by omega), vm_upd_k _ _ _ (by omega)]
  exact h3 p hp
theorem mMov.sSp (h : mMov σ 203 (b + 5) (kd, gl, sp, wy, er, top, law, n, gn, fin)) (hn : n ≤ 6) (hp : p < n) (x : Int32) : mMov (vm_upd σ 203 (b + 7 + p) x) 203 (b + 5) (kd, gl, vm_u sp p x, wy, er, top, law, n, gn, fin) := by
  obtain ⟨h1, h2, h3, z, hz, h4⟩ := h
  refine ⟨by rw [vm_upd_k _ _ _ (by omega)]; exact h1, by rw [vm_upd_k _ _ _ (by omega)]; exact h2, fun j hj => ?_, z, hz, by rw [vm_upd_k _ _ _ (by omega)]; exact h4⟩
  have hj : j < n := hj
  obtain ⟨h5, h6⟩ := h3 j hj
  refine ⟨?_, by rw [vm_upd_k _ _ _ (by omega)]; exact h6⟩
  show _ = vm_u sp p x j
  by_cases e : j = p
  · rw [e, vm_u_s]
    simp [vm_upd, upd]
  · rw [vm_u_n e, vm_upd_k _ _ _ (by omega)]
    exact h5
theorem mMov.sEr (h : mMov σ 203 (b + 5) (kd, gl, sp, wy, er, top, law, n, gn, fin)) (hn : n ≤ 6) (hp : p < n) (hq : q < n) (hpq : p ≠ q) (he : ∀ j, j < n → er j < n) : mMov (vm_upd (vm_upd σ 203 (b + 13 + p) (nI (er q))) 203 (b + 13 + q) (nI (er p))) 203 (b + 5) (kd, gl, sp, wy, vm_u (vm_u er p (er q)) q (er p), top, law, n, gn, fin) := by
  obtain ⟨h1, h2, h3, z, hz, h4⟩ := h
  have u1 : vm_upd (vm_upd σ 203 (b + 13 + p) (nI (er q))) 203 (b + 13 + q) (nI (er p)) 203 (b + 13 + q) = nI (er p) := by simp [vm_upd, upd]
  have u2 : vm_upd (vm_upd σ 203 (b + 13 + p) (nI (er q))) 203 (b + 13 + q) (nI (er p)) 203 (b + 13 + p) = nI (er q) := by rw [vm_upd_k _ _ _ (by omega)]; simp [vm_upd, upd]
  have un : ∀ k, k ≠ b + 13 + p → k ≠ b + 13 + q → vm_upd (vm_upd σ 203 (b + 13 + p) (nI (er q))) 203 (b + 13 + q) (nI (er p)) 203 k = σ 203 k := fun k a c => by rw [vm_upd_k _ _ _ c, vm_upd_k _ _ _ a]
  refine ⟨(un _ (by omega) (by omega)).trans h1, (un _ (by omega) (by omega)).trans h2, fun j hj => ?_, ?_⟩
  · have hj : j < n := hj
    obtain ⟨h5, h6⟩ := h3 j hj
    refine ⟨(un _ (by omega) (by omega)).trans h5, ?_⟩
    show _ = nI (vm_u (vm_u er p (er q)) q (er p) j)
    by_cases e : j = q
    · subst e
      rw [vm_u_s]
      exact u1
    · rw [vm_u_n e]
      by_cases e2 : j = p
      · subst e2
        rw [vm_u_s]
        exact u2
      · rw [vm_u_n e2]
        exact (un _ (by omega) (by omega)).trans h6
  · by_cases e : z = p
    · subst e
      exact ⟨q, by omega, u1.trans ((h3 z hp).2.symm.trans h4)⟩
    · by_cases e2 : z = q
      · subst e2
        exact ⟨p, by omega, u2.trans ((h3 z hq).2.symm.trans h4)⟩
      · exact ⟨z, hz, (un _ (by omega) (by omega)).trans h4⟩
end
set_option maxHeartbeats 4000000 in
set_option maxRecDepth 100000 in
theorem m_has {G : vm_G} {σ : vm_M} {m p : Nat} (hm : m < 64) (hp : p < 6) : vm_RI G 0 mX8_has [.int (nI m), .int (nI p)] σ (fun r σ' => r = bI (m.testBit p) ∧ σ' = σ) := by
  refine vm_int (y := mX8_has) (by decide) (Nat.le_of_ble_eq_true rfl) (ls0 := [some (.int (nI m)), some (.int (nI p))]) rfl rfl (fun C F K => ?_)
  have F : vm_F G C cX8_has RX8 2 _ := F
  show vm_Ex G C 2 0 [some (.int (nI m)), some (.int (nI p))] [] _
  refine q_iload_n F 0 dX8_has_0 rfl rfl ?_
  refine q_iload_n F 1 dX8_has_1 rfl rfl ?_
  refine q_ishr F dX8_has_2 ?_
  refine q_iconst F (nI 1) dX8_has_3 (by decide) ?_
  refine q_iand F dX8_has_4 ?_
  refine q_top (.int (bI (m.testBit p))) (congrArg Value.int (bit_at m hm p hp)) ?_
  refine q_iconst F (nI 1) dX8_has_5 (by decide) ?_
  refine b1_ne F 13 dX8_has_6 (by decide) (fun c_6 => ?_) (fun c_6 => ?_)
  · refine q_iconst F (nI 0) dX8_has_13 (by decide) ?_
    refine K _ _ _ _ ?_ dX8_has_14 (by decide)
    exact ⟨by rw [c_6]; decide, rfl⟩
  · refine q_iconst F (nI 1) dX8_has_9 (by decide) ?_
    refine q_goto F 14 dX8_has_10 (by decide) ?_
    refine K _ _ _ _ ?_ dX8_has_14 (by decide)
    exact ⟨by rw [c_6]; decide, rfl⟩
set_option maxHeartbeats 4000000 in
set_option maxRecDepth 100000 in
theorem m_isCow {G : vm_G} {σ : vm_M} {v : vm_V} {p : Nat} (hX : mFix σ 0 v) (hp : p < V_n v) (hn : V_n v ≤ 6) (hk : V_kd v p < 6) : vm_RI G 0 mX8_isCow [.ref 202, .int (nI p)] σ (fun r σ' => r = bI (decide (V_kd v p = 5)) ∧ σ' = σ) := by
  refine vm_int (y := mX8_isCow) (by decide) (Nat.le_of_ble_eq_true rfl) (ls0 := [some (.ref 202), some (.int (nI p))]) rfl rfl (fun C F K => ?_)
  have F : vm_F G C cX8_isCow RX8 2 _ := F
  show vm_Ex G C 2 0 [some (.ref 202), some (.int (nI p))] [] _
  refine q_aload_n F 0 dX8_isCow_0 rfl rfl ?_
  refine gX8_7 F dX8_isCow_1 sh_202 rfl ?_
  refine q_bipush F (nI 19) dX8_isCow_4 (by decide) ?_
  refine q_iload_n F 1 dX8_isCow_6 rfl rfl ?_
  refine n_iadd F dX8_isCow_7 ?_
  refine q_iald F dX8_isCow_8 sh_203 (by omega) (by decide) ?_
  refine q_top (.int (nI (V_kd v p))) (congrArg Value.int (hX.aKd hp)) ?_
  refine q_iconst F (nI 5) dX8_isCow_9 (by decide) ?_
  refine n_ne F 17 dX8_isCow_10 (by decide) (by omega) (by omega) (fun c_10 => ?_) (fun c_10 => ?_)
  · refine q_iconst F (nI 0) dX8_isCow_17 (by decide) ?_
    refine K _ _ _ _ ?_ dX8_isCow_18 (by decide)
    exact ⟨by simp [c_10, bI, nI_0, nI_one], rfl⟩
  · refine q_iconst F (nI 1) dX8_isCow_13 (by decide) ?_
    refine q_goto F 18 dX8_isCow_14 (by decide) ?_
    refine K _ _ _ _ ?_ dX8_isCow_18 (by decide)
    exact ⟨by simp [c_10, bI, nI_0, nI_one], rfl⟩
set_option maxHeartbeats 4000000 in
set_option maxRecDepth 100000 in
theorem m_layDone {G : vm_G} {σ : vm_M} {kd : Nat → Nat} {gl sp : Nat → Int32} {wy : Nat → Bool} {er : Nat → Nat} {top law n gn : Nat} {fin : Int32} {b : Nat} (hX : mFix σ 0 (kd, gl, sp, wy, er, top, law, n, gn, fin)) (hM : mMov σ 203 (b + 5) (kd, gl, sp, wy, er, top, law, n, gn, fin)) (hb : b = 0 ∨ b = 93) (hn : n ≤ 6) (hE : ∀ j, j < n → er j < n) : vm_RV G 1 mX8_layDone [.ref 202, .int (nI b)] σ (fun σ' => mMov σ' 203 (b + 5) (kd, gl, sp, wy, er, top, law, n, gn, sC gl sp er n fin) ∧ mFr σ σ' b) := by
  refine vm_void (y := mX8_layDone) (by decide) (Nat.le_of_ble_eq_true rfl) (ls0 := [some (.ref 202), some (.int (nI b)), none, none]) rfl rfl (fun C F K => ?_)
  have F : vm_F G C cX8_layDone RX8 4 _ := F
  show vm_Ex G C 4 0 [some (.ref 202), some (.int (nI b)), none, none] [] _
  have L : ∀ k i, i + k = n → ∀ (σ2 : vm_M) (x : Option Value), mMov σ2 203 (b + 5) (kd, gl, sp, wy, er, top, law, n, gn, sC gl sp er i fin) → mFr σ σ2 b → vm_Ex G C 4 2 [some (.ref 202), some (.int (nI b)), some (.int (nI i)), x] [] σ2 := by
    intro k
    induction k with
    | zero =>
      intro i hi σ2 x hM2 hf
      have hX2 := hX.fr0 hf hb hn
      refine q_iload_n F 2 dX8_layDone_2 rfl rfl ?_
      refine q_aload_n F 0 dX8_layDone_3 rfl rfl ?_
      refine gX8_7 F dX8_layDone_4 sh_202 rfl ?_
      refine q_iconst F (nI 3) dX8_layDone_7 (by decide) ?_
      refine q_iald F dX8_layDone_8 sh_203 (by omega) (by decide) ?_
      refine q_top (.int (nI n)) (congrArg Value.int (hX2.aN)) ?_
      refine n_ge F 71 dX8_layDone_9 (by decide) (by omega) (by omega) (fun c_9 => ?_) (fun c_9 => ?_)
      · refine K _ _ _ ?_ dX8_layDone_71
        have e : i = n := by omega
        subst e
        exact ⟨hM2, hf⟩
      · omega
    | succ k ih =>
      intro i hi σ2 x hM2 hf
      have hX2 := hX.fr0 hf hb hn
      refine q_iload_n F 2 dX8_layDone_2 rfl rfl ?_
      refine q_aload_n F 0 dX8_layDone_3 rfl rfl ?_
      refine gX8_7 F dX8_layDone_4 sh_202 rfl ?_
      refine q_iconst F (nI 3) dX8_layDone_7 (by decide) ?_
      refine q_iald F dX8_layDone_8 sh_203 (by omega) (by decide) ?_
      refine q_top (.int (nI n)) (congrArg Value.int (hX2.aN)) ?_
      refine n_ge F 71 dX8_layDone_9 (by decide) (by omega) (by omega) (fun c_9 => ?_) (fun c_9 => ?_)
      · omega
      · refine q_aload_n F 0 dX8_layDone_12 rfl rfl ?_
        refine gX8_7 F dX8_layDone_13 sh_202 rfl ?_
        refine q_iload_n F 1 dX8_layDone_16 rfl rfl ?_
        refine q_bipush F (nI 13) dX8_layDone_17 (by decide) ?_
        refine n_iadd F dX8_layDone_19 ?_
        refine q_iload_n F 2 dX8_layDone_20 rfl rfl ?_
        refine n_iadd F dX8_layDone_21 ?_
        refine q_iald F dX8_layDone_22 sh_203 (by omega) (by decide) ?_
        refine q_top (.int (nI (er i))) (congrArg Value.int (hM2.aEr (show i < n by omega))) ?_
        refine q_istore_n3 F dX8_layDone_23 (by decide) rfl ?_
        refine q_aload_n F 0 dX8_layDone_24 rfl rfl ?_
        refine gX8_7 F dX8_layDone_25 sh_202 rfl ?_
        refine q_iload_n F 1 dX8_layDone_28 rfl rfl ?_
        refine q_iconst F (nI 5) dX8_layDone_29 (by decide) ?_
        refine n_iadd F dX8_layDone_30 ?_
        refine q_dup2 F dX8_layDone_31 rfl rfl ?_
        refine q_iald F dX8_layDone_32 sh_203 (by omega) (by decide) ?_
        refine q_top (.int (sC gl sp er i fin)) (congrArg Value.int (hM2.aFin)) ?_
        refine q_aload_n F 0 dX8_layDone_33 rfl rfl ?_
        refine gX8_7 F dX8_layDone_34 sh_202 rfl ?_
        refine q_iload_n F 1 dX8_layDone_37 rfl rfl ?_
        refine q_bipush F (nI 7) dX8_layDone_38 (by decide) ?_
        refine n_iadd F dX8_layDone_40 ?_
        refine q_iload_n F 2 dX8_layDone_41 rfl rfl ?_
        refine n_iadd F dX8_layDone_42 ?_
        refine q_iald F dX8_layDone_43 sh_203 (by omega) (by decide) ?_
        refine q_top (.int (sp i)) (congrArg Value.int (hM2.aSp (show i < n by omega))) ?_
        refine q_aload_n F 0 dX8_layDone_44 rfl rfl ?_
        refine gX8_7 F dX8_layDone_45 sh_202 rfl ?_
        refine q_bipush F (nI 25) dX8_layDone_48 (by decide) ?_
        refine q_iload_n F 3 dX8_layDone_50 rfl rfl ?_
        refine n_iadd F dX8_layDone_51 ?_
        refine q_iald F dX8_layDone_52 sh_203 (by have := hE i (by omega); omega) (by decide) ?_
        refine q_top (.int (gl (er i))) (congrArg Value.int (hX2.aGl (show er i < n from hE i (by omega)))) ?_
        refine q_icmp_ne F 62 dX8_layDone_53 (by decide) (fun c_53 => ?_) (fun c_53 => ?_)
        · refine q_iconst F (nI 0) dX8_layDone_62 (by decide) ?_
          refine q_ior F dX8_layDone_63 ?_
          refine q_top (.int (sC gl sp er (i + 1) fin)) (congrArg Value.int (by simp [sC, c_9, c_53, sBit, nI_0])) ?_
          refine q_iast F dX8_layDone_64 sh_203 (by omega) (by decide) ?_
          refine q_iinc2 F _ dX8_layDone_65 (nI_inc _) (by decide) rfl ?_
          refine q_goto F 2 dX8_layDone_68 (by decide) ?_
          exact ih (i + 1) (by omega) _ _ (hM2.sFin hn _) (hf.up (by omega) (by omega))
        · refine q_iconst F (nI 1) dX8_layDone_56 (by decide) ?_
          refine q_iload_n F 3 dX8_layDone_57 rfl rfl ?_
          refine q_ishl F dX8_layDone_58 ?_
          refine q_goto F 63 dX8_layDone_59 (by decide) ?_
          refine q_ior F dX8_layDone_63 ?_
          refine q_top (.int (sC gl sp er (i + 1) fin)) (congrArg Value.int (by simp [sC, c_9, c_53, sBit, nI_0])) ?_
          refine q_iast F dX8_layDone_64 sh_203 (by omega) (by decide) ?_
          refine q_iinc2 F _ dX8_layDone_65 (nI_inc _) (by decide) rfl ?_
          refine q_goto F 2 dX8_layDone_68 (by decide) ?_
          exact ih (i + 1) (by omega) _ _ (hM2.sFin hn _) (hf.up (by omega) (by omega))
  refine q_iconst F (nI 0) dX8_layDone_0 (by decide) ?_
  refine q_istore_n2 F dX8_layDone_1 (by decide) rfl ?_
  exact L n 0 (by omega) _ _ hM mFr.rf
set_option maxHeartbeats 4000000 in
set_option maxRecDepth 100000 in
theorem m_comes {G : vm_G} {σ : vm_M} {kd : Nat → Nat} {gl sp : Nat → Int32} {wy : Nat → Bool} {er : Nat → Nat} {top law n gn : Nat} {fin : Int32} {b : Nat} (hX : mFix σ 0 (kd, gl, sp, wy, er, top, law, n, gn, fin)) (hM : mMov σ 203 (b + 5) (kd, gl, sp, wy, er, top, law, n, gn, fin)) (hb : b = 0 ∨ b = 93) (hn : n ≤ 6) {p : Nat} (hp : p < n) : vm_RV G 1 mX8_comes [.ref 202, .int (nI b), .int (nI p)] σ (fun σ' => mMov σ' 203 (b + 5) (kd, gl, (sW top p (sp, wy)).1, (sW top p (sp, wy)).2, er, top, law, n, gn, fin) ∧ mFr σ σ' b) := by
  refine vm_void (y := mX8_comes) (by decide) (Nat.le_of_ble_eq_true rfl) (ls0 := [some (.ref 202), some (.int (nI b)), some (.int (nI p)), none, none, none]) rfl rfl (fun C F K => ?_)
  have F : vm_F G C cX8_comes RX8 6 _ := F
  show vm_Ex G C 6 0 [some (.ref 202), some (.int (nI b)), some (.int (nI p)), none, none, none] [] _
  obtain ⟨W, hW⟩ : ∃ W : Bool, W = (if sp p = (if wy p then nI top else nI 0) then !(wy p) else wy p) := ⟨_, rfl⟩
  have J76 : ∀ x, vm_Ex G C 6 76 [some (.ref 202), some (.int (nI b)), some (.int (nI p)), some (.int (sp p)), some (.int (bI (wy p))), x] [.int (nI (wM (vm_u wy p W) n)), .int (nI (b + 6)), .ref 203] σ := by
    intro x
    refine q_iast F dX8_comes_76 sh_203 (by omega) (by decide) ?_
    have hM2 := hM.sWs hn (vm_u wy p W)
    refine q_aload_n F 0 dX8_comes_77 rfl rfl ?_
    refine gX8_7 F dX8_comes_78 sh_202 rfl ?_
    refine q_iload_n F 1 dX8_comes_81 rfl rfl ?_
    refine q_bipush F (nI 7) dX8_comes_82 (by decide) ?_
    refine n_iadd F dX8_comes_84 ?_
    refine q_iload_n F 2 dX8_comes_85 rfl rfl ?_
    refine n_iadd F dX8_comes_86 ?_
    refine q_dup2 F dX8_comes_87 rfl rfl ?_
    refine q_iald F dX8_comes_88 sh_203 (by omega) (by decide) ?_
    refine q_top (.int (sp p)) (congrArg Value.int (hM2.aSp hp)) ?_
    refine q_aload_n F 0 dX8_comes_89 rfl rfl ?_
    refine gX8_7 F dX8_comes_90 sh_202 rfl ?_
    refine q_iload_n F 1 dX8_comes_93 rfl rfl ?_
    refine q_bipush F (nI 6) dX8_comes_94 (by decide) ?_
    refine n_iadd F dX8_comes_96 ?_
    refine q_iald F dX8_comes_97 sh_203 (by omega) (by decide) ?_
    refine q_top (.int (nI (wM (vm_u wy p W) n))) (congrArg Value.int (hM2.aWs)) ?_
    refine q_iload_n F 2 dX8_comes_98 rfl rfl ?_
    refine iX8_145 F dX8_comes_99 (m_has (wM_64 hn) (by omega)) (by decide) rfl rfl (Nat.le_of_ble_eq_true rfl) (fun v_99 σ_99 h_99 => ?_)
    obtain ⟨rfl, rfl⟩ := h_99
    refine q_top (.int (bI W)) (congrArg Value.int (by rw [wM_bit, vm_u_s]; simp [hp])) ?_
    refine b_eq F 109 dX8_comes_102 (by decide) (fun c_102 => ?_) (fun c_102 => ?_)
    · refine q_iconst F (-1) dX8_comes_109 (by decide) ?_
      refine q_iadd F dX8_comes_110 ?_
      refine q_top (.int (sp p + (if W then nI 1 else -1))) (congrArg Value.int (by rw [c_102]; rfl)) ?_
      refine q_iast F dX8_comes_111 sh_203 (by omega) (by decide) ?_
      refine K _ _ _ ?_ dX8_comes_112
      have hM3 := hM2.sSp hn hp (sp p + (if W then nI 1 else -1))
      subst hW
      exact ⟨hM3, (mFr.rf.up (by omega) (by omega)).up (by omega) (by omega)⟩
    · refine q_iconst F (nI 1) dX8_comes_105 (by decide) ?_
      refine q_goto F 110 dX8_comes_106 (by decide) ?_
      refine q_iadd F dX8_comes_110 ?_
      refine q_top (.int (sp p + (if W then nI 1 else -1))) (congrArg Value.int (by rw [c_102]; rfl)) ?_
      refine q_iast F dX8_comes_111 sh_203 (by omega) (by decide) ?_
      refine K _ _ _ ?_ dX8_comes_112
      have hM3 := hM2.sSp hn hp (sp p + (if W then nI 1 else -1))
      subst hW
      exact ⟨hM3, (mFr.rf.up (by omega) (by omega)).up (by omega) (by omega)⟩
  have J51 : vm_Ex G C 6 51 [some (.ref 202), some (.int (nI b)), some (.int (nI p)), some (.int (sp p)), some (.int (bI (wy p))), none] [.int (bI (decide (sp p = (if wy p then nI top else nI 0))))] σ := by
    refine q_istore5 F dX8_comes_51 (by decide) rfl ?_
    refine q_aload_n F 0 dX8_comes_53 rfl rfl ?_
    refine gX8_7 F dX8_comes_54 sh_202 rfl ?_
    refine q_iload_n F 1 dX8_comes_57 rfl rfl ?_
    refine q_bipush F (nI 6) dX8_comes_58 (by decide) ?_
    refine n_iadd F dX8_comes_60 ?_
    refine q_dup2 F dX8_comes_61 rfl rfl ?_
    refine q_iald F dX8_comes_62 sh_203 (by omega) (by decide) ?_
    refine q_top (.int (nI (wM wy n))) (congrArg Value.int (hM.aWs)) ?_
    refine q_iload F 5 dX8_comes_63 rfl ?_
    refine b_eq F 74 dX8_comes_65 (by decide) (fun c_65 => ?_) (fun c_65 => ?_)
    · refine q_iconst F (nI 0) dX8_comes_74 (by decide) ?_
      refine q_ixor F dX8_comes_75 ?_
      refine q_top (.int (nI (wM (vm_u wy p W) n))) (congrArg Value.int (by
      have c_65 := c_65
      first
        | (rw [hW, if_pos (of_decide_eq_true c_65)]; exact xm1 hp hn)
        | (rw [hW, if_neg (of_decide_eq_false c_65), vm_u_same]; simp [nI_0]))) ?_
      exact J76 _
    · refine q_iconst F (nI 1) dX8_comes_68 (by decide) ?_
      refine q_iload_n F 2 dX8_comes_69 rfl rfl ?_
      refine q_ishl F dX8_comes_70 ?_
      refine q_goto F 75 dX8_comes_71 (by decide) ?_
      refine q_ixor F dX8_comes_75 ?_
      refine q_top (.int (nI (wM (vm_u wy p W) n))) (congrArg Value.int (by
      have c_65 := c_65
      first
        | (rw [hW, if_pos (of_decide_eq_true c_65)]; exact xm1 hp hn)
        | (rw [hW, if_neg (of_decide_eq_false c_65), vm_u_same]; simp [nI_0]))) ?_
      exact J76 _
  have J43 : vm_Ex G C 6 43 [some (.ref 202), some (.int (nI b)), some (.int (nI p)), some (.int (sp p)), some (.int (bI (wy p))), none] [.int (if wy p then nI top else nI 0), .int (sp p)] σ := by
    refine q_icmp_ne F 50 dX8_comes_43 (by decide) (fun c_43 => ?_) (fun c_43 => ?_)
    · refine q_iconst F (nI 0) dX8_comes_50 (by decide) ?_
      refine q_top (.int (bI (decide (sp p = (if wy p then nI top else nI 0))))) (congrArg Value.int (by
        first
          | (rw [decide_eq_false c_43]; decide)
          | (rw [decide_eq_true c_43]; decide))) ?_
      exact J51
    · refine q_iconst F (nI 1) dX8_comes_46 (by decide) ?_
      refine q_goto F 51 dX8_comes_47 (by decide) ?_
      refine q_top (.int (bI (decide (sp p = (if wy p then nI top else nI 0))))) (congrArg Value.int (by
        first
          | (rw [decide_eq_false c_43]; decide)
          | (rw [decide_eq_true c_43]; decide))) ?_
      exact J51
  refine q_aload_n F 0 dX8_comes_0 rfl rfl ?_
  refine gX8_7 F dX8_comes_1 sh_202 rfl ?_
  refine q_iload_n F 1 dX8_comes_4 rfl rfl ?_
  refine q_bipush F (nI 7) dX8_comes_5 (by decide) ?_
  refine n_iadd F dX8_comes_7 ?_
  refine q_iload_n F 2 dX8_comes_8 rfl rfl ?_
  refine n_iadd F dX8_comes_9 ?_
  refine q_iald F dX8_comes_10 sh_203 (by omega) (by decide) ?_
  refine q_top (.int (sp p)) (congrArg Value.int (hM.aSp hp)) ?_
  refine q_istore_n3 F dX8_comes_11 (by decide) rfl ?_
  refine q_aload_n F 0 dX8_comes_12 rfl rfl ?_
  refine gX8_7 F dX8_comes_13 sh_202 rfl ?_
  refine q_iload_n F 1 dX8_comes_16 rfl rfl ?_
  refine q_bipush F (nI 6) dX8_comes_17 (by decide) ?_
  refine n_iadd F dX8_comes_19 ?_
  refine q_iald F dX8_comes_20 sh_203 (by omega) (by decide) ?_
  refine q_top (.int (nI (wM wy n))) (congrArg Value.int (hM.aWs)) ?_
  refine q_iload_n F 2 dX8_comes_21 rfl rfl ?_
  refine iX8_145 F dX8_comes_22 (m_has (wM_64 hn) (by omega)) (by decide) rfl rfl (Nat.le_of_ble_eq_true rfl) (fun v_22 σ_22 h_22 => ?_)
  obtain ⟨rfl, rfl⟩ := h_22
  refine q_top (.int (bI (wy p))) (congrArg Value.int (by rw [wM_bit]; simp [hp])) ?_
  refine q_istore4 F dX8_comes_25 (by decide) rfl ?_
  refine q_iload_n F 3 dX8_comes_27 rfl rfl ?_
  refine q_iload F 4 dX8_comes_28 rfl ?_
  refine b_eq F 42 dX8_comes_30 (by decide) (fun c_30 => ?_) (fun c_30 => ?_)
  · refine q_iconst F (nI 0) dX8_comes_42 (by decide) ?_
    refine q_top (.int (if wy p then nI top else nI 0)) (congrArg Value.int (by rw [c_30]; rfl)) ?_
    exact J43
  · refine q_aload_n F 0 dX8_comes_33 rfl rfl ?_
    refine gX8_7 F dX8_comes_34 sh_202 rfl ?_
    refine q_iconst F (nI 1) dX8_comes_37 (by decide) ?_
    refine q_iald F dX8_comes_38 sh_203 (by omega) (by decide) ?_
    refine q_top (.int (nI top)) (congrArg Value.int (hX.aTop)) ?_
    refine q_goto F 43 dX8_comes_39 (by decide) ?_
    refine q_top (.int (if wy p then nI top else nI 0)) (congrArg Value.int (by rw [c_30]; rfl)) ?_
    exact J43
set_option maxHeartbeats 4000000 in
set_option maxRecDepth 100000 in
theorem m_meet {G : vm_G} {σ : vm_M} {kd : Nat → Nat} {gl sp : Nat → Int32} {wy : Nat → Bool} {er : Nat → Nat} {top law n gn : Nat} {fin : Int32} {b : Nat} (hX : mFix σ 0 (kd, gl, sp, wy, er, top, law, n, gn, fin)) (hM : mMov σ 203 (b + 5) (kd, gl, sp, wy, er, top, law, n, gn, fin)) (hb : b = 0 ∨ b = 93) (hn : n ≤ 6) {p q : Nat} (hp : p < n) (hq : q < n) (hpq : p ≠ q) (hE : ∀ j, j < n → er j < n) (hl : law < 3) (hl1 : law ≠ 1) : vm_RV G 0 mX8_meet [.ref 202, .int (nI b), .int (nI p), .int (nI q)] σ (fun σ' => mMov σ' 203 (b + 5) (kd, gl, sp, (sM law p q (wy, er)).1, (sM law p q (wy, er)).2, top, law, n, gn, fin) ∧ mFr σ σ' b) := by
  refine vm_void (y := mX8_meet) (by decide) (Nat.le_of_ble_eq_true rfl) (ls0 := [some (.ref 202), some (.int (nI b)), some (.int (nI p)), some (.int (nI q)), none]) rfl rfl (fun C F K => ?_)
  have F : vm_F G C cX8_meet RX8 5 _ := F
  show vm_Ex G C 5 0 [some (.ref 202), some (.int (nI b)), some (.int (nI p)), some (.int (nI q)), none] [] _
  refine q_aload_n F 0 dX8_meet_0 rfl rfl ?_
  refine gX8_7 F dX8_meet_1 sh_202 rfl ?_
  refine q_iload_n F 1 dX8_meet_4 rfl rfl ?_
  refine q_bipush F (nI 13) dX8_meet_5 (by decide) ?_
  refine n_iadd F dX8_meet_7 ?_
  refine q_iload_n F 2 dX8_meet_8 rfl rfl ?_
  refine n_iadd F dX8_meet_9 ?_
  refine q_iald F dX8_meet_10 sh_203 (by omega) (by decide) ?_
  refine q_top (.int (nI (er p))) (congrArg Value.int (hM.aEr hp)) ?_
  refine q_istore4 F dX8_meet_11 (by decide) rfl ?_
  refine q_aload_n F 0 dX8_meet_13 rfl rfl ?_
  refine gX8_7 F dX8_meet_14 sh_202 rfl ?_
  refine q_iload_n F 1 dX8_meet_17 rfl rfl ?_
  refine q_bipush F (nI 13) dX8_meet_18 (by decide) ?_
  refine n_iadd F dX8_meet_20 ?_
  refine q_iload_n F 2 dX8_meet_21 rfl rfl ?_
  refine n_iadd F dX8_meet_22 ?_
  refine q_aload_n F 0 dX8_meet_23 rfl rfl ?_
  refine gX8_7 F dX8_meet_24 sh_202 rfl ?_
  refine q_iload_n F 1 dX8_meet_27 rfl rfl ?_
  refine q_bipush F (nI 13) dX8_meet_28 (by decide) ?_
  refine n_iadd F dX8_meet_30 ?_
  refine q_iload_n F 3 dX8_meet_31 rfl rfl ?_
  refine n_iadd F dX8_meet_32 ?_
  refine q_iald F dX8_meet_33 sh_203 (by omega) (by decide) ?_
  refine q_top (.int (nI (er q))) (congrArg Value.int (hM.aEr hq)) ?_
  refine q_iast F dX8_meet_34 sh_203 (by omega) (by decide) ?_
  refine q_aload_n F 0 dX8_meet_35 rfl rfl ?_
  refine gX8_7 F dX8_meet_36 sh_202 rfl ?_
  refine q_iload_n F 1 dX8_meet_39 rfl rfl ?_
  refine q_bipush F (nI 13) dX8_meet_40 (by decide) ?_
  refine n_iadd F dX8_meet_42 ?_
  refine q_iload_n F 3 dX8_meet_43 rfl rfl ?_
  refine n_iadd F dX8_meet_44 ?_
  refine q_iload F 4 dX8_meet_45 rfl ?_
  refine q_iast F dX8_meet_47 sh_203 (by omega) (by decide) ?_
  have hM2 := hM.sEr hn hp hq hpq hE
  have hf2 : mFr σ (vm_upd (vm_upd σ 203 (b + 13 + p) (nI (er q))) 203 (b + 13 + q) (nI (er p))) b := (mFr.rf.up (by omega) (by omega)).up (by omega) (by omega)
  have hX2 := hX.fr0 hf2 hb hn
  refine q_aload_n F 0 dX8_meet_48 rfl rfl ?_
  refine gX8_7 F dX8_meet_49 sh_202 rfl ?_
  refine q_iload_n F 1 dX8_meet_52 rfl rfl ?_
  refine q_bipush F (nI 6) dX8_meet_53 (by decide) ?_
  refine n_iadd F dX8_meet_55 ?_
  refine q_dup2 F dX8_meet_56 rfl rfl ?_
  refine q_iald F dX8_meet_57 sh_203 (by omega) (by decide) ?_
  refine q_top (.int (nI (wM wy n))) (congrArg Value.int (hM2.aWs)) ?_
  refine q_aload_n F 0 dX8_meet_58 rfl rfl ?_
  refine gX8_7 F dX8_meet_59 sh_202 rfl ?_
  refine q_iconst F (nI 2) dX8_meet_62 (by decide) ?_
  refine q_iald F dX8_meet_63 sh_203 (by omega) (by decide) ?_
  refine q_top (.int (nI law)) (congrArg Value.int (hX2.aLaw)) ?_
  refine z_ne F 77 dX8_meet_64 (by decide) (by omega) (fun c_64 => ?_) (fun c_64 => ?_)
  · refine q_iconst F (nI 0) dX8_meet_77 (by decide) ?_
    refine q_ixor F dX8_meet_78 ?_
    refine q_top (.int (nI (wM (if law = 0 then vm_u (vm_u wy p (!(wy p))) q (!(vm_u wy p (!(wy p)) q)) else wy) n))) (congrArg Value.int (by
    first
      | (rw [if_pos c_64]; exact xm2 hp hq hn hpq)
      | (rw [if_neg c_64]; simp [nI_0]))) ?_
    refine q_iast F dX8_meet_79 sh_203 (by omega) (by decide) ?_
    refine K _ _ _ ?_ dX8_meet_80
    have hM3 := hM2.sWs hn (if law = 0 then vm_u (vm_u wy p (!(wy p))) q (!(vm_u wy p (!(wy p)) q)) else wy)
    refine ⟨?_, hf2.up (by omega) (by omega)⟩
    have e : sM law p q (wy, er) = ((if law = 0 then vm_u (vm_u wy p (!(wy p))) q (!(vm_u wy p (!(wy p)) q)) else wy), vm_u (vm_u er p (er q)) q (er p)) := by unfold sM; rw [if_neg hl1]
    rw [e]
    exact hM3
  · refine q_iconst F (nI 1) dX8_meet_67 (by decide) ?_
    refine q_iload_n F 2 dX8_meet_68 rfl rfl ?_
    refine q_ishl F dX8_meet_69 ?_
    refine q_iconst F (nI 1) dX8_meet_70 (by decide) ?_
    refine q_iload_n F 3 dX8_meet_71 rfl rfl ?_
    refine q_ishl F dX8_meet_72 ?_
    refine q_ior F dX8_meet_73 ?_
    refine q_goto F 78 dX8_meet_74 (by decide) ?_
    refine q_ixor F dX8_meet_78 ?_
    refine q_top (.int (nI (wM (if law = 0 then vm_u (vm_u wy p (!(wy p))) q (!(vm_u wy p (!(wy p)) q)) else wy) n))) (congrArg Value.int (by
    first
      | (rw [if_pos c_64]; exact xm2 hp hq hn hpq)
      | (rw [if_neg c_64]; simp [nI_0]))) ?_
    refine q_iast F dX8_meet_79 sh_203 (by omega) (by decide) ?_
    refine K _ _ _ ?_ dX8_meet_80
    have hM3 := hM2.sWs hn (if law = 0 then vm_u (vm_u wy p (!(wy p))) q (!(vm_u wy p (!(wy p)) q)) else wy)
    refine ⟨?_, hf2.up (by omega) (by omega)⟩
    have e : sM law p q (wy, er) = ((if law = 0 then vm_u (vm_u wy p (!(wy p))) q (!(vm_u wy p (!(wy p)) q)) else wy), vm_u (vm_u er p (er q)) q (er p)) := by unfold sM; rw [if_neg hl1]
    rw [e]
    exact hM3
