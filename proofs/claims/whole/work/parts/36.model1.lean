set_option maxHeartbeats 4000000 in
set_option maxRecDepth 100000 in
theorem m_find {G : vm_G} {σ : vm_M} (x : Int32) : vm_RI G 0 mX8_find [.ref 202, .int x] σ (fun r σ' => r = -1000010 - x ∧ σ' = vm_upd σ 202 6 x) := by
  refine vm_int (y := mX8_find) (by decide) (Nat.le_of_ble_eq_true rfl) (ls0 := [some (.ref 202), some (.int x)]) rfl rfl (fun C F K => ?_)
  have F : vm_F G C cX8_find RX8 2 _ := F
  show vm_Ex G C 2 0 [some (.ref 202), some (.int x)] [] _
  refine q_aload_n F 0 dX8_find_0 rfl rfl ?_
  refine q_iload_n F 1 dX8_find_1 rfl rfl ?_
  refine pX8_35 F dX8_find_2 sh_202 rfl ⟨rfl, rfl⟩ ?_
  refine q_ldc F dX8_find_5 wX8_39 ?_
  refine q_iload_n F 1 dX8_find_7 rfl rfl ?_
  refine q_isub F dX8_find_8 ?_
  exact K _ _ _ _ (⟨rfl, rfl⟩) dX8_find_9 rfl
set_option maxHeartbeats 4000000 in
set_option maxRecDepth 100000 in
theorem m_give {G : vm_G} {σ : vm_M} (x : Int32) : vm_RI G 0 mX8_give [.ref 202, .int x] σ (fun r σ' => r = x ∧ σ' = vm_upd σ 202 6 (nI 0)) := by
  refine vm_int (y := mX8_give) (by decide) (Nat.le_of_ble_eq_true rfl) (ls0 := [some (.ref 202), some (.int x)]) rfl rfl (fun C F K => ?_)
  have F : vm_F G C cX8_give RX8 2 _ := F
  show vm_Ex G C 2 0 [some (.ref 202), some (.int x)] [] _
  refine q_aload_n F 0 dX8_give_0 rfl rfl ?_
  refine q_iconst F (nI 0) dX8_give_1 (by decide) ?_
  refine pX8_35 F dX8_give_2 sh_202 rfl ⟨rfl, rfl⟩ ?_
  refine q_iload_n F 1 dX8_give_5 rfl rfl ?_
  exact K _ _ _ _ (⟨rfl, rfl⟩) dX8_give_6 rfl
theorem l_lt {x y : Int64} : x < y ↔ x.toInt < y.toInt := Int64.lt_iff_toInt_lt
set_option maxHeartbeats 4000000 in
set_option maxRecDepth 100000 in
theorem m_in {G : vm_G} {σ : vm_M} (x y z : Int64) : vm_RI G 0 mX8_in [.long x, .long y, .long z] σ (fun r σ' => r = bI (decide (y.toInt ≤ x.toInt ∧ x.toInt ≤ z.toInt)) ∧ σ' = σ) := by
  refine vm_int (y := mX8_in) (by decide) (Nat.le_of_ble_eq_true rfl) (ls0 := [some (.long x), none, some (.long y), none, some (.long z), none]) rfl rfl (fun C F K => ?_)
  have F : vm_F G C cX8_in RX8 6 _ := F
  show vm_Ex G C 6 0 [some (.long x), none, some (.long y), none, some (.long z), none] [] _
  refine q_lload_n F 0 dX8_in_0 rfl rfl ?_
  refine q_lload_n F 2 dX8_in_1 rfl rfl ?_
  refine q_lcmp F dX8_in_2 ?_
  refine q_if_lt F 17 dX8_in_3 (by decide) (fun c_3 => ?_) (fun c_3 => ?_)
  · have c_3 := l_lt.mp ((lg_cmp_lt x y).mp c_3)
    refine q_iconst F (nI 0) dX8_in_17 (by decide) ?_
    refine K _ _ _ _ ?_ dX8_in_18 (by decide)
    refine ⟨?_, rfl⟩
    rw [decide_eq_false (show ¬ (y.toInt ≤ x.toInt ∧ x.toInt ≤ z.toInt) by omega)]
    decide
  · have c_3 : ¬ x.toInt < y.toInt := fun q => c_3 ((lg_cmp_lt x y).mpr (l_lt.mpr q))
    refine q_lload_n F 0 dX8_in_6 rfl rfl ?_
    refine q_lload F 4 dX8_in_7 rfl ?_
    refine q_lcmp F dX8_in_9 ?_
    refine q_if_gt F 17 dX8_in_10 (by decide) (fun c_10 => ?_) (fun c_10 => ?_)
    · have c_10 := l_lt.mp ((lg_cmp_gt x z).mp c_10)
      refine q_iconst F (nI 0) dX8_in_17 (by decide) ?_
      refine K _ _ _ _ ?_ dX8_in_18 (by decide)
      refine ⟨?_, rfl⟩
      rw [decide_eq_false (show ¬ (y.toInt ≤ x.toInt ∧ x.toInt ≤ z.toInt) by omega)]
      decide
    · have c_10 : ¬ z.toInt < x.toInt := fun q => c_10 ((lg_cmp_gt x z).mpr (l_lt.mpr q))
      refine q_iconst F (nI 1) dX8_in_13 (by decide) ?_
      refine q_goto F 18 dX8_in_14 (by decide) ?_
      refine K _ _ _ _ ?_ dX8_in_18 (by decide)
      refine ⟨?_, rfl⟩
      rw [decide_eq_true (show y.toInt ≤ x.toInt ∧ x.toInt ≤ z.toInt by omega)]
      decide
theorem in_wi {x : Int32} {y z : Int64} {n : Nat} (hy : y.toInt = 0) (hz : z.toInt = (n : Int) - 1) : decide (y.toInt ≤ x.toInt64.toInt ∧ x.toInt64.toInt ≤ z.toInt) = wi x n := by
  unfold wi
  rw [Int32.toInt_toInt64, hy, hz]
  exact decide_eq_decide.mpr ⟨fun h => ⟨h.1, by omega⟩, fun h => ⟨h.1, by omega⟩⟩
set_option maxHeartbeats 4000000 in
set_option maxRecDepth 100000 in
theorem m_isRow {G : vm_G} {σ : vm_M} (x : Int32) : vm_RI G 1 mX8_isRow [.int x] σ (fun r σ' => r = bI (wi x 8) ∧ σ' = σ) := by
  refine vm_int (y := mX8_isRow) (by decide) (Nat.le_of_ble_eq_true rfl) (ls0 := [some (.int x)]) rfl rfl (fun C F K => ?_)
  have F : vm_F G C cX8_isRow RX8 1 _ := F
  show vm_Ex G C 1 0 [some (.int x)] [] _
  refine q_iload_n F 0 dX8_isRow_0 rfl rfl ?_
  refine q_i2l F dX8_isRow_1 ?_
  refine q_lconst F (lN 0) dX8_isRow_2 (by decide) ?_
  refine q_ldc2 F dX8_isRow_3 wX8_40 ?_
  refine iX8_42 F dX8_isRow_6 (m_in _ _ _) (by decide) rfl rfl (Nat.le_of_ble_eq_true rfl) (fun v_6 σ_6 h_6 => ?_)
  obtain ⟨rfl, rfl⟩ := h_6
  refine K _ _ _ _ ?_ dX8_isRow_9 (nI_bool _)
  exact ⟨by rw [in_wi (n := 8) (by decide) (by decide)], rfl⟩
set_option maxHeartbeats 4000000 in
set_option maxRecDepth 100000 in
theorem m_isAhead {G : vm_G} {σ : vm_M} (x : Int32) : vm_RI G 1 mX8_isAhead [.int x] σ (fun r σ' => r = bI (wi x 121) ∧ σ' = σ) := by
  refine vm_int (y := mX8_isAhead) (by decide) (Nat.le_of_ble_eq_true rfl) (ls0 := [some (.int x)]) rfl rfl (fun C F K => ?_)
  have F : vm_F G C cX8_isAhead RX8 1 _ := F
  show vm_Ex G C 1 0 [some (.int x)] [] _
  refine q_iload_n F 0 dX8_isAhead_0 rfl rfl ?_
  refine q_i2l F dX8_isAhead_1 ?_
  refine q_lconst F (lN 0) dX8_isAhead_2 (by decide) ?_
  refine q_ldc2 F dX8_isAhead_3 wX8_181 ?_
  refine iX8_42 F dX8_isAhead_6 (m_in _ _ _) (by decide) rfl rfl (Nat.le_of_ble_eq_true rfl) (fun v_6 σ_6 h_6 => ?_)
  obtain ⟨rfl, rfl⟩ := h_6
  refine K _ _ _ _ ?_ dX8_isAhead_9 (nI_bool _)
  exact ⟨by rw [in_wi (n := 121) (by decide) (by decide)], rfl⟩
theorem MInv.fnd {σ : vm_M} {T : vm_T} (h : MInv σ T) (x : Int32) : MInv (vm_upd σ 202 6 x) (sT_fnd T x) := by
  obtain ⟨h1, h2, h3, h4, h5, h6, h7, h8⟩ := h
  have e : ∀ o, o ≠ 202 → vm_upd σ 202 6 x o = σ o := fun o ho => vm_upd_n _ _ _ ho
  have e0 : ∀ k, k ≠ 6 → vm_upd σ 202 6 x 202 k = σ 202 k := fun k hk => vm_upd_k _ _ _ hk
  refine ⟨?_, ⟨(e0 4 (by omega)).trans h2.1, ?_⟩, ?_, ⟨(e0 2 (by omega)).trans h4.1, ?_⟩, ?_, ⟨(e0 11 (by omega)).trans h6.1, ?_⟩, (e0 5 (by omega)).trans h7, by simp [vm_upd, upd]⟩
  · unfold mRows; rw [e 206 (by omega), e 207 (by omega), e 208 (by omega)]; exact h1
  · rw [e 205 (by omega)]; exact h2.2
  · unfold mSec mFix mMov at *; rw [e 203 (by omega)]; exact h3
  · unfold mMov; rw [e 204 (by omega)]; exact h4.2
  · unfold mImg mSec mFix mMov at *; rw [e 203 (by omega)]; exact h5
  · rw [e 209 (by omega)]; exact h6.2
