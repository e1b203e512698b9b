set_option maxHeartbeats 4000000 in
set_option maxRecDepth 100000 in
theorem m_find {G : vm_G} {σ : vm_M} (x : Int32) : vm_RI G 0 mX8_find [.ref 202, .int x] σ (fun r σ' => r = -1000010 - x ∧ σ' = vm_upd σ 202 6 x) := by
  refine vm_int (y := mX8_find) (by decide) (Nat.le_of_ble_eq_true rfl) (ls0 := [some (.ref 202), some (.int x)]) rfl rfl (fun C F K => ?_)
  have F : vm_F G C cX8_find RX8 2 _ := F
  show vm_Ex G C 2 0 [some (.ref 202), some (.int x)] [] _
  refine q_aload_n F 0 dX8_find_0 rfl rfl ?_
  refine q_iload_n F 1 dX8_find_1 rfl rfl ?_
  refine pX8_35 F dX8_find_2 sh_202 rfl ⟨rfl, rfl⟩ ?_
  refine q_ldc F dX8_find_5 wX8_39 ?_
  refine q_iload_n F 1 dX8_find_7 rfl rfl ?_
  refine q_isub F dX8_find_8 ?_
  exact K _ _ _ _ (⟨rfl, rfl⟩) dX8_find_9 rfl
set_option maxHeartbeats 4000000 in
set_option maxRecDepth 100000 in
theorem m_give {G : vm_G} {σ : vm_M} (x : Int32) : vm_RI G 0 mX8_give [.ref 202, .int x] σ (fun r σ' => r = x ∧ σ' = vm_upd σ 202 6 (nI 0)) := by
  refine vm_int (y := mX8_give) (by decide) (Nat.le_of_ble_eq_true rfl) (ls0 := [some (.ref 202), some (.int x)]) rfl rfl (fun C F K => ?_)
  have F : vm_F G C cX8_give RX8 2 _ := F
  show vm_Ex G C 2 0 [some (.ref 202), some (.int x)] [] _
  refine q_aload_n F 0 dX8_give_0 rfl rfl ?_
  refine q_iconst F (nI 0) dX8_give_1 (by decide) ?_
  refine pX8_35 F dX8_give_2 sh_202 rfl ⟨rfl, rfl⟩ ?_
  refine q_iload_n F 1 dX8_give_5 rfl rfl ?_
  exact K _ _ _ _ (⟨rfl, rfl⟩) dX8_give_6 rfl
