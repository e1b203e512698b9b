theorem i_lt0 (x : Int32) : x < 0 ↔ x.toInt < 0 := by rw [Int32.lt_iff_toInt_lt]; rfl
theorem i_ge0 (x : Int32) : 0 ≤ x ↔ 0 ≤ x.toInt := by rw [Int32.le_iff_toInt_le]; rfl
theorem i_le {m : Nat} (h : m < 2 ^ 31) (x : Int32) : x ≤ nI m ↔ x.toInt ≤ m := by rw [Int32.le_iff_toInt_le, nI_toInt h]
theorem i_gt {m : Nat} (h : m < 2 ^ 31) (x : Int32) : nI m < x ↔ (m : Int) < x.toInt := by rw [Int32.lt_iff_toInt_lt, nI_toInt h]
theorem i_lt {m : Nat} (h : m < 2 ^ 31) (x : Int32) : x < nI m ↔ x.toInt < m := by rw [Int32.lt_iff_toInt_lt, nI_toInt h]
theorem i_ge {m : Nat} (h : m < 2 ^ 31) (x : Int32) : nI m ≤ x ↔ (m : Int) ≤ x.toInt := by rw [Int32.le_iff_toInt_le, nI_toInt h]
theorem wi_iff (x : Int32) (n : Nat) : wi x n = true ↔ 0 ≤ x.toInt ∧ x.toInt < n := by unfold wi; exact decide_eq_true_iff
theorem wi_no (x : Int32) (n : Nat) : wi x n = false ↔ ¬ (0 ≤ x.toInt ∧ x.toInt < n) := by unfold wi; exact decide_eq_false_iff_not
theorem i_of {x : Int32} (h : 0 ≤ x.toInt) : ∃ j : Nat, j < 2 ^ 31 ∧ x = nI j := nI_of (by rw [i_lt0]; omega)
theorem wi_nI2 {j n : Nat} (hj : j < n) (hn : n < 2 ^ 31) : wi (nI j) n = true := by rw [wi_nI (by omega)]; exact decide_eq_true hj
section
variable {σ : vm_M} {b : Nat} {v : vm_V}
theorem isP.kd (h : isP σ b v) (j : Nat) : σ (b + 1) j = nI (V_kd v j) := by rw [← show vm_P σ b v = σ from h]; exact vP_kd j
theorem isP.gl (h : isP σ b v) (j : Nat) : σ (b + 2) j = V_gl v j := by rw [← show vm_P σ b v = σ from h]; exact vP_gl j
theorem isP.sp (h : isP σ b v) (j : Nat) : σ (b + 3) j = V_sp v j := by rw [← show vm_P σ b v = σ from h]; exact vP_sp j
theorem isP.wy (h : isP σ b v) (j : Nat) : σ (b + 4) j = bI (V_wy v j) := by rw [← show vm_P σ b v = σ from h]; exact vP_wy j
theorem isP.er (h : isP σ b v) (j : Nat) : σ (b + 5) j = nI (V_er v j) := by rw [← show vm_P σ b v = σ from h]; exact vP_er j
theorem isP.top (h : isP σ b v) : σ b 5 = nI (V_top v) := by rw [← show vm_P σ b v = σ from h]; exact vP_top
theorem isP.law (h : isP σ b v) : σ b 6 = nI (V_law v) := by rw [← show vm_P σ b v = σ from h]; exact vP_law
theorem isP.n (h : isP σ b v) : σ b 7 = nI (V_n v) := by rw [← show vm_P σ b v = σ from h]; exact vP_n
theorem isP.gn (h : isP σ b v) : σ b 8 = nI (V_gn v) := by rw [← show vm_P σ b v = σ from h]; exact vP_gn
theorem isP.fin (h : isP σ b v) : σ b 9 = V_fin v := by rw [← show vm_P σ b v = σ from h]; exact vP_fin
theorem isP.fin' (h : isP σ b v) : σ b 9 = V_fin v := h.fin
theorem d_holder (h : isP σ b v) {G : vm_G} (hb : vm_pathAt b) {e : Nat} (h2 : sOk v) (h1 : e < V_n v) : vm_RI G 0 mX2_holder [.ref b, .int (nI e)] σ (fun r σ' => r = nI (sHold e v) ∧ σ' = σ) := by
  have := c_holder (G := G) (σ := σ) hb h2 h1
  rwa [show vm_P σ b v = σ from h] at this
theorem d_tell (h : isP σ b v) {G : vm_G} (hb : vm_pathAt b) {p : Nat} (hp : p < 6) (w : Int32) : vm_RI G 0 mX2_tellPerson [.ref b, .int (nI p), .int w] σ (fun r σ' => r = sTell v p w ∧ σ' = σ) := by
  have := c_tellPerson (G := G) (σ := σ) (v := v) hb hp w
  rwa [show vm_P σ b v = σ from h] at this
theorem d_sets (h : isP σ b v) {G : vm_G} (hb : vm_pathAt b) (h2 : sOk v) : vm_RI G 0 mX2_sets [.ref b] σ (fun r σ' => r = nI (2 ^ V_n v) ∧ σ' = σ) := by
  have := c_sets (G := G) (σ := σ) hb h2
  rwa [show vm_P σ b v = σ from h] at this
theorem d_can (h : isP σ b v) {G : vm_G} (hb : vm_pathAt b) (h2 : sOk v) {s : Nat} (hs : s < 64) : vm_RI G 0 mX2_canSetOut [.ref b, .int (nI s)] σ (fun a σ' => a = bI (sCan (V_kd v) (V_n v) s) ∧ σ' = σ) := by
  have := c_canSetOut (G := G) (σ := σ) hb h2 hs
  rwa [show vm_P σ b v = σ from h] at this
theorem d_half (h : isP σ b v) {G : vm_G} (hb : vm_pathAt b) (h2 : sOk v) : vm_RV G 2 mX2_goHalf [.ref b] σ (fun σ' => σ' = vm_P σ b (sH v)) := by
  have := c_half (G := G) (σ := σ) hb h2
  rwa [show vm_P σ b v = σ from h] at this
end
theorem sHold_lt {e : Nat} {v : vm_V} (h : 0 < V_n v) : sHold e v < V_n v := by
  have := sF_le (fun p => V_er v p == e) (V_n v - 1)
  unfold sHold
  omega
theorem pow6 {n : Nat} (h : n ≤ 6) : 2 ^ n ≤ 64 := by
  have := Nat.pow_le_pow_right (show 0 < 2 by decide) h
  exact this
/-- one row has changed -/
theorem CInv.rows {σ σ' : vm_M} {T : vm_T} {rn : Nat → Nat} {ri : Nat → Nat → Int32} {j a : Nat} (h : CInv σ T) (hj : j < 8) (ha : a < 4) (h1 : σ' (174 + 2 * j) 1 = bI (decide (a ≠ 0)))
    (h2 : a ≠ 0 → σ' (174 + 2 * j) 2 = nI (a - 1) ∧ σ' (174 + 2 * j) 3 = nI (rn j) ∧ rn j ≤ 40 ∧ ∀ k, k < rn j → σ' (174 + 2 * j + 1) k = ri j k)
    (h3 : ∀ q, q ≠ j → rn q = T_rn T q ∧ ri q = T_ri T q) (hf : ∀ o, o ≠ 174 + 2 * j → o ≠ 174 + 2 * j + 1 → σ' o = σ o) : CInv σ' (sT_rows T (vm_u (T_rl T) j a) rn ri (T_fnd T)) := by
  obtain ⟨g1, g2, g3, g4, g5, g6, g7, g8, v, g9, g10⟩ := h
  have f : ∀ o, o < 174 ∨ 190 ≤ o → σ' o = σ o := fun o ho => hf o (by omega) (by omega)
  refine ⟨?_, g2.fr (f 3 (by omega)) (f 4 (by omega)), g3.fr (by rw [f 0 (by omega)]) (fun o a b => f o (by omega)), g4.fr (fun o a b => f o (by omega)), g5.fr (f 24 (by omega)) (fun o a b => f o (by omega)), g6.fr (f 171 (by omega)) (f 172 (by omega)), by rw [f 0 (by omega)]; exact g7, by rw [f 0 (by omega)]; exact g8, v, g9.fr (fun o a b => f o (by omega)), g10⟩
  intro r hr
  show vm_u (T_rl T) j a r < 4 ∧ σ' (174 + 2 * r) 1 = bI (decide (vm_u (T_rl T) j a r ≠ 0)) ∧ (vm_u (T_rl T) j a r ≠ 0 → σ' (174 + 2 * r) 2 = nI (vm_u (T_rl T) j a r - 1) ∧ σ' (174 + 2 * r) 3 = nI (rn r) ∧ rn r ≤ 40 ∧ ∀ k, k < rn r → σ' (174 + 2 * r + 1) k = ri r k)
  by_cases e : r = j
  · subst e
    rw [vm_u_s]
    exact ⟨ha, h1, h2⟩
  · rw [vm_u_n e]
    have h5 := g1 r hr
    rw [hf _ (by omega) (by omega), hf _ (by omega) (by omega)]
    obtain ⟨e1, e2⟩ := h3 r e
    rw [e1, e2]
    exact h5
