theorem ln_none {a : Nat} (h : a < 4) : (if a = 0 then (-1000000 : Int32) else nI (a - 1)) = -1000000 ↔ a = 0 := by
  rcases (show a = 0 ∨ a = 1 ∨ a = 2 ∨ a = 3 by omega) with rfl | rfl | rfl | rfl <;> decide
theorem MInv.rows {σ σ' : vm_M} {T : vm_T} {rl rn : Nat → Nat} {ri : Nat → Nat → Int32} (h : MInv σ T) (hf : ∀ o, o ≠ 206 → o ≠ 207 → o ≠ 208 → σ' o = σ o) (hr : mRows σ' rl rn ri) : MInv σ' (sT_rows T rl rn ri (T_fnd T)) := by
  obtain ⟨h1, h2, h3, h4, h5, h6, h7, h8⟩ := h
  refine ⟨hr, ?_, ?_, ?_, ?_, ?_, ?_, ?_⟩
  · unfold mTape; rw [hf 202 (by omega) (by omega) (by omega), hf 205 (by omega) (by omega) (by omega)]; exact h2
  · unfold mSec mFix mMov at *; rw [hf 203 (by omega) (by omega) (by omega)]; exact h3
  · unfold mPast mMov at *; rw [hf 202 (by omega) (by omega) (by omega), hf 204 (by omega) (by omega) (by omega)]; exact h4
  · unfold mImg mSec mFix mMov at *; rw [hf 203 (by omega) (by omega) (by omega)]; exact h5
  · unfold mTr; rw [hf 202 (by omega) (by omega) (by omega), hf 209 (by omega) (by omega) (by omega)]; exact h6
  · rw [hf 202 (by omega) (by omega) (by omega)]; exact h7
  · rw [hf 202 (by omega) (by omega) (by omega)]; exact h8
set_option maxHeartbeats 4000000 in
set_option maxRecDepth 100000 in
theorem m_drop {G : vm_G} {σ : vm_M} {T : vm_T} (hM : MInv σ T) (hI : SInv T) (x : Int32) : vm_RI G 2 mX8_drop [.ref 202, .int x] σ (mPost σ (aDrop T x)) := by
  refine vm_int (y := mX8_drop) (by decide) (Nat.le_of_ble_eq_true rfl) (ls0 := [some (.ref 202), some (.int x)]) rfl rfl (fun C F K => ?_)
  have F : vm_F G C cX8_drop RX8 2 _ := F
  show vm_Ex G C 2 0 [some (.ref 202), some (.int x)] [] _
  obtain ⟨hR, hTp, ⟨hHp, hS⟩, hPs, hIm, hTr, hFl, hFn⟩ := id hM
  refine q_iload_n F 1 dX8_drop_0 rfl rfl ?_
  refine iX8_46 F dX8_drop_1 (m_isRow _) (by decide) rfl rfl (Nat.le_of_ble_eq_true rfl) (fun v_1 σ_1 h_1 => ?_)
  obtain ⟨rfl, rfl⟩ := h_1
  refine b_ne F 10 dX8_drop_4 (by decide) (fun c_4 => ?_) (fun c_4 => ?_)
  · obtain ⟨j, hj, rfl⟩ := wi_of c_4
    have hx := xN_nI (show j < 2 ^ 31 by omega)
    obtain ⟨r1, r2⟩ := hR j hj
    obtain ⟨hr4, hr5⟩ := hI.2.2.2.2.2.2.1 j hj
    refine q_aload_n F 0 dX8_drop_10 rfl rfl ?_
    refine gX8_20 F dX8_drop_11 sh_202 rfl ?_
    refine q_iload_n F 1 dX8_drop_14 rfl rfl ?_
    refine q_iald F dX8_drop_15 sh_206 (by omega) (by decide) ?_
    refine q_top (.int ((if T_rl T j = 0 then -1000000 else nI (T_rl T j - 1)))) (congrArg Value.int (r1)) ?_
    refine q_ldc F dX8_drop_16 wX8_19 ?_
    refine q_icmp_ne F 27 dX8_drop_18 (by decide) (fun c_18 => ?_) (fun c_18 => ?_)
    · have c0 : ¬ T_rl T j = 0 := fun z => c_18 ((ln_none hr4).mpr z)
      refine q_aload_n F 0 dX8_drop_27 rfl rfl ?_
      refine gX8_20 F dX8_drop_28 sh_202 rfl ?_
      refine q_iload_n F 1 dX8_drop_31 rfl rfl ?_
      refine q_ldc F dX8_drop_32 wX8_19 ?_
      refine q_iast F dX8_drop_34 sh_206 (by omega) (by decide) ?_
      refine q_aload_n F 0 dX8_drop_35 rfl rfl ?_
      refine q_aload_n F 0 dX8_drop_36 rfl rfl ?_
      refine gX8_23 F dX8_drop_37 sh_202 rfl ?_
      refine q_iload_n F 1 dX8_drop_40 rfl rfl ?_
      refine q_iald F dX8_drop_41 sh_207 (by omega) (by decide) ?_
      refine q_top (.int (nI (T_rn T j))) (congrArg Value.int (by rw [vm_upd_n _ _ _ (by omega)]; exact (r2 c0).1)) ?_
      refine iX8_57 F dX8_drop_42 (m_give _) (by decide) sh_202 rfl rfl (Nat.le_of_ble_eq_true rfl) (fun v_42 σ_42 h_42 => ?_)
      obtain ⟨rfl, rfl⟩ := h_42
      refine K _ _ _ _ ?_ dX8_drop_45 rfl
      have e : aDrop T (nI j) = (nI (T_rn T j), sT_rows T (vm_u (T_rl T) j 0) (T_rn T) (T_ri T) (nI 0)) := by
        unfold aDrop
        rw [hx, if_neg (by simp [c_4]), if_neg c0]
      rw [e]
      refine ⟨rfl, MInv.fnd (T := sT_rows T (vm_u (T_rl T) j 0) (T_rn T) (T_ri T) (T_fnd T)) (hM.rows (fun o a b c => vm_upd_n _ _ _ a) (fun q hq => ?_)) (nI 0), fun o ho => by rw [vm_upd_n _ _ _ (by omega), vm_upd_n _ _ _ (by omega)]⟩
      rw [vm_upd_n _ _ _ (show (207 : Nat) ≠ 206 by omega), vm_upd_n _ _ _ (show (208 : Nat) ≠ 206 by omega)]
      by_cases eq : q = j
      · rw [eq, vm_u_s]
        exact ⟨by simp [vm_upd, upd], fun z => absurd rfl z⟩
      · rw [vm_u_n eq, vm_upd_k _ _ _ eq]
        exact hR q hq
    · have c0 : T_rl T j = 0 := (ln_none hr4).mp c_18
      refine q_aload_n F 0 dX8_drop_21 rfl rfl ?_
      refine q_iconst F (nI 1) dX8_drop_22 (by decide) ?_
      refine iX8_53 F dX8_drop_23 (m_find _) (by decide) sh_202 rfl rfl (Nat.le_of_ble_eq_true rfl) (fun v_23 σ_23 h_23 => ?_)
      obtain ⟨rfl, rfl⟩ := h_23
      refine K _ _ _ _ ?_ dX8_drop_26 rfl
      have e : aDrop T (nI j) = sFound T 1 := by
        simp [aDrop, hx, c_4, c0]
      rw [e]
      exact ⟨rfl, hM.fnd _, fun o ho => vm_upd_n _ _ _ (by omega)⟩
  · refine q_ldc F dX8_drop_7 wX8_52 ?_
    refine K _ _ _ _ ?_ dX8_drop_9 rfl
    have e : aDrop T x = (sBAD, T) := by
      simp [aDrop, c_4]
    rw [e]
    exact ⟨rfl, hM, fun _ _ => rfl⟩
