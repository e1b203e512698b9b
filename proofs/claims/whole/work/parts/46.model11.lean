set_option maxHeartbeats 4000000 in
set_option maxRecDepth 100000 in
theorem m_kind {G : vm_G} {σ : vm_M} {T : vm_T} (hM : MInv σ T) (hI : SInv T) (x : Int32) : vm_RI G 2 mX8_kind [.ref 202, .int x] σ (mPost σ (aKind T x)) := by
  refine vm_int (y := mX8_kind) (by decide) (Nat.le_of_ble_eq_true rfl) (ls0 := [some (.ref 202), some (.int x)]) rfl rfl (fun C F K => ?_)
  have F : vm_F G C cX8_kind RX8 2 _ := F
  show vm_Ex G C 2 0 [some (.ref 202), some (.int x)] [] _
  obtain ⟨hR, hTp, ⟨hHp, hS⟩, hPs, hIm, hTr, hFl, hFn⟩ := id hM
  have hX := hS.1
  have hM2 : mMov σ 203 (0 + 5) (T_nw T) := hS.2.2
  have hG := hI.1
  have hOk := hG.1
  have hn : V_n (T_nw T) ≤ 6 := hOk.1
  refine q_aload_n F 0 dX8_kind_0 rfl rfl ?_
  refine q_iload_n F 1 dX8_kind_1 rfl rfl ?_
  refine iX8_168 F dX8_kind_2 (m_isPerson hX.aN hn _) (by decide) sh_202 rfl rfl (Nat.le_of_ble_eq_true rfl) (fun v_2 σ_2 h_2 => ?_)
  obtain ⟨rfl, h_2⟩ := h_2
  obtain rfl := h_2.symm
  refine b_eq F 20 dX8_kind_5 (by decide) (fun c_5 => ?_) (fun c_5 => ?_)
  · refine q_ldc F dX8_kind_20 wX8_52 ?_
    refine K _ _ _ _ ?_ dX8_kind_22 rfl
    have e : aKind T x = (sBAD, T) := by
      simp [aKind, c_5]
    rw [e]
    exact ⟨rfl, hM, fun _ _ => rfl⟩
  · obtain ⟨p, hpp, rfl⟩ := wi_of c_5
    have hxp := xN_nI (show p < 2 ^ 31 by omega)
    refine q_aload_n F 0 dX8_kind_8 rfl rfl ?_
    refine gX8_7 F dX8_kind_9 sh_202 rfl ?_
    refine q_bipush F (nI 19) dX8_kind_12 (by decide) ?_
    refine q_iload_n F 1 dX8_kind_14 rfl rfl ?_
    refine n_iadd F dX8_kind_15 ?_
    refine q_iald F dX8_kind_16 sh_203 (by omega) (by decide) ?_
    refine q_top (.int (nI (V_kd (T_nw T) p))) (congrArg Value.int (hX.aKd hpp)) ?_
    refine q_goto F 22 dX8_kind_17 (by decide) ?_
    refine K _ _ _ _ ?_ dX8_kind_22 rfl
    have e : aKind T (nI p) = (nI (V_kd (T_nw T) p), T) := by
      rw [aKind, hxp, c_5]
      simp
    rw [e]
    exact ⟨rfl, hM, fun _ _ => rfl⟩
def isK (k a : Nat) : Bool := a == 0 || a == k || (a == 1 && (k == 1 || k == 2 || k == 3)) || (a == 4 && k == 5)
theorem isK_ok : ∀ k, k < 6 → ∀ a, a < 6 → isK k a = sIs k a := by decide +kernel
set_option maxHeartbeats 4000000 in
set_option maxRecDepth 100000 in
theorem m_isKind {G : vm_G} {σ : vm_M} {k a : Nat} (hk : k < 6) (ha : a < 6) : vm_RI G 0 mX8_isKind [.int (nI k), .int (nI a)] σ (fun r σ' => r = bI (sIs k a) ∧ σ' = σ) := by
  refine vm_int (y := mX8_isKind) (by decide) (Nat.le_of_ble_eq_true rfl) (ls0 := [some (.int (nI k)), some (.int (nI a)), none]) rfl rfl (fun C F K => ?_)
  have F : vm_F G C cX8_isKind RX8 3 _ := F
  show vm_Ex G C 3 0 [some (.int (nI k)), some (.int (nI a)), none] [] _
  have J20 : ∀ y, y = bI (k == 1 || k == 2 || k == 3) → vm_Ex G C 3 20 [some (.int (nI k)), some (.int (nI a)), none] [.int y] σ := by
    intro y hy
    subst hy
    refine q_istore_n2 F dX8_isKind_20 (by decide) rfl ?_
    refine q_iload_n F 1 dX8_isKind_21 rfl rfl ?_
    refine z_eq F 49 dX8_isKind_22 (by decide) (by omega) (fun c_22 => ?_) (fun c_22 => ?_)
    · refine q_iconst F (nI 1) dX8_isKind_49 (by decide) ?_
      refine q_goto F 54 dX8_isKind_50 (by decide) ?_
      refine K _ _ _ _ ?_ dX8_isKind_54 (by decide)
      refine ⟨?_, rfl⟩
      rcases (show k = 0 ∨ k = 1 ∨ k = 2 ∨ k = 3 ∨ k = 4 ∨ k = 5 by omega) with rfl | rfl | rfl | rfl | rfl | rfl <;> rcases (show a = 0 ∨ a = 1 ∨ a = 2 ∨ a = 3 ∨ a = 4 ∨ a = 5 by omega) with rfl | rfl | rfl | rfl | rfl | rfl <;> first | decide | omega | exact absurd c_36 (by decide)
    · refine q_iload_n F 1 dX8_isKind_25 rfl rfl ?_
      refine q_iload_n F 0 dX8_isKind_26 rfl rfl ?_
      refine n_eq F 49 dX8_isKind_27 (by decide) (by omega) (by omega) (fun c_27 => ?_) (fun c_27 => ?_)
      · refine q_iconst F (nI 1) dX8_isKind_49 (by decide) ?_
        refine q_goto F 54 dX8_isKind_50 (by decide) ?_
        refine K _ _ _ _ ?_ dX8_isKind_54 (by decide)
        refine ⟨?_, rfl⟩
        rcases (show k = 0 ∨ k = 1 ∨ k = 2 ∨ k = 3 ∨ k = 4 ∨ k = 5 by omega) with rfl | rfl | rfl | rfl | rfl | rfl <;> rcases (show a = 0 ∨ a = 1 ∨ a = 2 ∨ a = 3 ∨ a = 4 ∨ a = 5 by omega) with rfl | rfl | rfl | rfl | rfl | rfl <;> first | decide | omega | exact absurd c_36 (by decide)
      · refine q_iload_n F 1 dX8_isKind_30 rfl rfl ?_
        refine q_iconst F (nI 1) dX8_isKind_31 (by decide) ?_
        refine n_ne F 39 dX8_isKind_32 (by decide) (by omega) (by omega) (fun c_32 => ?_) (fun c_32 => ?_)
        · refine q_iload_n F 1 dX8_isKind_39 rfl rfl ?_
          refine q_iconst F (nI 4) dX8_isKind_40 (by decide) ?_
          refine n_ne F 53 dX8_isKind_41 (by decide) (by omega) (by omega) (fun c_41 => ?_) (fun c_41 => ?_)
          · refine q_iconst F (nI 0) dX8_isKind_53 (by decide) ?_
            refine K _ _ _ _ ?_ dX8_isKind_54 (by decide)
            refine ⟨?_, rfl⟩
            rcases (show k = 0 ∨ k = 1 ∨ k = 2 ∨ k = 3 ∨ k = 4 ∨ k = 5 by omega) with rfl | rfl | rfl | rfl | rfl | rfl <;> rcases (show a = 0 ∨ a = 1 ∨ a = 2 ∨ a = 3 ∨ a = 4 ∨ a = 5 by omega) with rfl | rfl | rfl | rfl | rfl | rfl <;> first | decide | omega | exact absurd c_36 (by decide)
          · refine q_iload_n F 0 dX8_isKind_44 rfl rfl ?_
            refine q_iconst F (nI 5) dX8_isKind_45 (by decide) ?_
            refine n_ne F 53 dX8_isKind_46 (by decide) (by omega) (by omega) (fun c_46 => ?_) (fun c_46 => ?_)
            · refine q_iconst F (nI 0) dX8_isKind_53 (by decide) ?_
              refine K _ _ _ _ ?_ dX8_isKind_54 (by decide)
              refine ⟨?_, rfl⟩
              rcases (show k = 0 ∨ k = 1 ∨ k = 2 ∨ k = 3 ∨ k = 4 ∨ k = 5 by omega) with rfl | rfl | rfl | rfl | rfl | rfl <;> rcases (show a = 0 ∨ a = 1 ∨ a = 2 ∨ a = 3 ∨ a = 4 ∨ a = 5 by omega) with rfl | rfl | rfl | rfl | rfl | rfl <;> first | decide | omega | exact absurd c_36 (by decide)
            · refine q_iconst F (nI 1) dX8_isKind_49 (by decide) ?_
              refine q_goto F 54 dX8_isKind_50 (by decide) ?_
              refine K _ _ _ _ ?_ dX8_isKind_54 (by decide)
              refine ⟨?_, rfl⟩
              rcases (show k = 0 ∨ k = 1 ∨ k = 2 ∨ k = 3 ∨ k = 4 ∨ k = 5 by omega) with rfl | rfl | rfl | rfl | rfl | rfl <;> rcases (show a = 0 ∨ a = 1 ∨ a = 2 ∨ a = 3 ∨ a = 4 ∨ a = 5 by omega) with rfl | rfl | rfl | rfl | rfl | rfl <;> first | decide | omega | exact absurd c_36 (by decide)
        · refine q_iload_n F 2 dX8_isKind_35 rfl rfl ?_
          refine b_ne F 49 dX8_isKind_36 (by decide) (fun c_36 => ?_) (fun c_36 => ?_)
          · refine q_iconst F (nI 1) dX8_isKind_49 (by decide) ?_
            refine q_goto F 54 dX8_isKind_50 (by decide) ?_
            refine K _ _ _ _ ?_ dX8_isKind_54 (by decide)
            refine ⟨?_, rfl⟩
            rcases (show k = 0 ∨ k = 1 ∨ k = 2 ∨ k = 3 ∨ k = 4 ∨ k = 5 by omega) with rfl | rfl | rfl | rfl | rfl | rfl <;> rcases (show a = 0 ∨ a = 1 ∨ a = 2 ∨ a = 3 ∨ a = 4 ∨ a = 5 by omega) with rfl | rfl | rfl | rfl | rfl | rfl <;> first | decide | omega | exact absurd c_36 (by decide)
          · refine q_iload_n F 1 dX8_isKind_39 rfl rfl ?_
            refine q_iconst F (nI 4) dX8_isKind_40 (by decide) ?_
            refine n_ne F 53 dX8_isKind_41 (by decide) (by omega) (by omega) (fun c_41 => ?_) (fun c_41 => ?_)
            · refine q_iconst F (nI 0) dX8_isKind_53 (by decide) ?_
              refine K _ _ _ _ ?_ dX8_isKind_54 (by decide)
              refine ⟨?_, rfl⟩
              rcases (show k = 0 ∨ k = 1 ∨ k = 2 ∨ k = 3 ∨ k = 4 ∨ k = 5 by omega) with rfl | rfl | rfl | rfl | rfl | rfl <;> rcases (show a = 0 ∨ a = 1 ∨ a = 2 ∨ a = 3 ∨ a = 4 ∨ a = 5 by omega) with rfl | rfl | rfl | rfl | rfl | rfl <;> first | decide | omega | exact absurd c_36 (by decide)
            · refine q_iload_n F 0 dX8_isKind_44 rfl rfl ?_
              refine q_iconst F (nI 5) dX8_isKind_45 (by decide) ?_
              refine n_ne F 53 dX8_isKind_46 (by decide) (by omega) (by omega) (fun c_46 => ?_) (fun c_46 => ?_)
              · refine q_iconst F (nI 0) dX8_isKind_53 (by decide) ?_
                refine K _ _ _ _ ?_ dX8_isKind_54 (by decide)
                refine ⟨?_, rfl⟩
                rcases (show k = 0 ∨ k = 1 ∨ k = 2 ∨ k = 3 ∨ k = 4 ∨ k = 5 by omega) with rfl | rfl | rfl | rfl | rfl | rfl <;> rcases (show a = 0 ∨ a = 1 ∨ a = 2 ∨ a = 3 ∨ a = 4 ∨ a = 5 by omega) with rfl | rfl | rfl | rfl | rfl | rfl <;> first | decide | omega | exact absurd c_36 (by decide)
              · refine q_iconst F (nI 1) dX8_isKind_49 (by decide) ?_
                refine q_goto F 54 dX8_isKind_50 (by decide) ?_
                refine K _ _ _ _ ?_ dX8_isKind_54 (by decide)
                refine ⟨?_, rfl⟩
                rcases (show k = 0 ∨ k = 1 ∨ k = 2 ∨ k = 3 ∨ k = 4 ∨ k = 5 by omega) with rfl | rfl | rfl | rfl | rfl | rfl <;> rcases (show a = 0 ∨ a = 1 ∨ a = 2 ∨ a = 3 ∨ a = 4 ∨ a = 5 by omega) with rfl | rfl | rfl | rfl | rfl | rfl <;> first | decide | omega | exact absurd c_36 (by decide)
  refine q_iload_n F 0 dX8_isKind_0 rfl rfl ?_
  refine q_iconst F (nI 1) dX8_isKind_1 (by decide) ?_
  refine n_eq F 15 dX8_isKind_2 (by decide) (by omega) (by omega) (fun c_2 => ?_) (fun c_2 => ?_)
  · refine q_iconst F (nI 1) dX8_isKind_15 (by decide) ?_
    refine q_goto F 20 dX8_isKind_16 (by decide) ?_
    exact J20 _ (by simp [bI, nI_0, nI_one, c_2])
  · refine q_iload_n F 0 dX8_isKind_5 rfl rfl ?_
    refine q_iconst F (nI 2) dX8_isKind_6 (by decide) ?_
    refine n_eq F 15 dX8_isKind_7 (by decide) (by omega) (by omega) (fun c_7 => ?_) (fun c_7 => ?_)
    · refine q_iconst F (nI 1) dX8_isKind_15 (by decide) ?_
      refine q_goto F 20 dX8_isKind_16 (by decide) ?_
      exact J20 _ (by simp [bI, nI_0, nI_one, c_2, c_7])
    · refine q_iload_n F 0 dX8_isKind_10 rfl rfl ?_
      refine q_iconst F (nI 3) dX8_isKind_11 (by decide) ?_
      refine n_ne F 19 dX8_isKind_12 (by decide) (by omega) (by omega) (fun c_12 => ?_) (fun c_12 => ?_)
      · refine q_iconst F (nI 0) dX8_isKind_19 (by decide) ?_
        exact J20 _ (by simp [bI, nI_0, nI_one, c_2, c_7, c_12])
      · refine q_iconst F (nI 1) dX8_isKind_15 (by decide) ?_
        refine q_goto F 20 dX8_isKind_16 (by decide) ?_
        exact J20 _ (by simp [bI, nI_0, nI_one, c_2, c_7, c_12])
set_option maxHeartbeats 4000000 in
set_option maxRecDepth 100000 in
theorem m_as {G : vm_G} {σ : vm_M} {T : vm_T} (hM : MInv σ T) (hI : SInv T) (x y : Int32) : vm_RI G 2 mX8_as [.ref 202, .int x, .int y] σ (mPost σ (aAs T x y)) := by
  refine vm_int (y := mX8_as) (by decide) (Nat.le_of_ble_eq_true rfl) (ls0 := [some (.ref 202), some (.int x), some (.int y)]) rfl rfl (fun C F K => ?_)
  have F : vm_F G C cX8_as RX8 3 _ := F
  show vm_Ex G C 3 0 [some (.ref 202), some (.int x), some (.int y)] [] _
  obtain ⟨hR, hTp, ⟨hHp, hS⟩, hPs, hIm, hTr, hFl, hFn⟩ := id hM
  have hX := hS.1
  have hM2 : mMov σ 203 (0 + 5) (T_nw T) := hS.2.2
  have hG := hI.1
  have hOk := hG.1
  have hn : V_n (T_nw T) ≤ 6 := hOk.1
  refine q_aload_n F 0 dX8_as_0 rfl rfl ?_
  refine q_iload_n F 1 dX8_as_1 rfl rfl ?_
  refine iX8_168 F dX8_as_2 (m_isPerson hX.aN hn _) (by decide) sh_202 rfl rfl (Nat.le_of_ble_eq_true rfl) (fun v_2 σ_2 h_2 => ?_)
  obtain ⟨rfl, h_2⟩ := h_2
  obtain rfl := h_2.symm
  refine b_eq F 20 dX8_as_5 (by decide) (fun c_5 => ?_) (fun c_5 => ?_)
  · refine q_ldc F dX8_as_20 wX8_52 ?_
    refine K _ _ _ _ ?_ dX8_as_22 rfl
    have e : aAs T x y = (sBAD, T) := by
      simp [aAs, c_5]
    rw [e]
    exact ⟨rfl, hM, fun _ _ => rfl⟩
  · obtain ⟨p, hpp, rfl⟩ := wi_of c_5
    have hxp := xN_nI (show p < 2 ^ 31 by omega)
    refine q_iload_n F 2 dX8_as_8 rfl rfl ?_
    refine q_i2l F dX8_as_9 ?_
    refine q_lconst F (lN 0) dX8_as_10 (by decide) ?_
    refine q_ldc2 F dX8_as_11 wX8_220 ?_
    refine iX8_42 F dX8_as_14 (m_in _ _ _) (by decide) rfl rfl (Nat.le_of_ble_eq_true rfl) (fun v_14 σ_14 h_14 => ?_)
    obtain ⟨rfl, h_14⟩ := h_14
    obtain rfl := h_14.symm
    refine q_top (.int (bI (wi y 6))) (congrArg Value.int (by rw [in_wi (n := 6) (by decide) (by decide)])) ?_
    refine b_ne F 23 dX8_as_17 (by decide) (fun c_17 => ?_) (fun c_17 => ?_)
    · obtain ⟨k, hpk, rfl⟩ := wi_of c_17
      have hxk := xN_nI (show k < 2 ^ 31 by omega)
      refine q_aload_n F 0 dX8_as_23 rfl rfl ?_
      refine gX8_7 F dX8_as_24 sh_202 rfl ?_
      refine q_bipush F (nI 19) dX8_as_27 (by decide) ?_
      refine q_iload_n F 1 dX8_as_29 rfl rfl ?_
      refine n_iadd F dX8_as_30 ?_
      refine q_iald F dX8_as_31 sh_203 (by omega) (by decide) ?_
      refine q_top (.int (nI (V_kd (T_nw T) p))) (congrArg Value.int (hX.aKd hpp)) ?_
      refine q_iload_n F 2 dX8_as_32 rfl rfl ?_
      refine iX8_222 F dX8_as_33 (m_isKind (hOk.2.2.1 p) hpk) (by decide) rfl rfl (Nat.le_of_ble_eq_true rfl) (fun v_33 σ_33 h_33 => ?_)
      obtain ⟨rfl, h_33⟩ := h_33
      obtain rfl := h_33.symm
      refine b_eq F 47 dX8_as_36 (by decide) (fun c_36 => ?_) (fun c_36 => ?_)
      · refine q_aload_n F 0 dX8_as_47 rfl rfl ?_
        refine q_iconst F (nI 3) dX8_as_48 (by decide) ?_
        refine iX8_53 F dX8_as_49 (m_find _) (by decide) sh_202 rfl rfl (Nat.le_of_ble_eq_true rfl) (fun v_49 σ_49 h_49 => ?_)
        obtain ⟨rfl, rfl⟩ := h_49
        refine K _ _ _ _ ?_ dX8_as_52 rfl
        have e : aAs T (nI p) (nI k) = sFound T 3 := by
          rw [aAs, hxp, hxk, c_5, c_17, c_36]
          simp
        rw [e]
        exact ⟨rfl, hM.fnd _, fun o ho => vm_upd_n _ _ _ (by omega)⟩
      · refine q_aload_n F 0 dX8_as_39 rfl rfl ?_
        refine q_iload_n F 1 dX8_as_40 rfl rfl ?_
        refine iX8_57 F dX8_as_41 (m_give _) (by decide) sh_202 rfl rfl (Nat.le_of_ble_eq_true rfl) (fun v_41 σ_41 h_41 => ?_)
        obtain ⟨rfl, rfl⟩ := h_41
        refine q_goto F 52 dX8_as_44 (by decide) ?_
        refine K _ _ _ _ ?_ dX8_as_52 rfl
        have e : aAs T (nI p) (nI k) = (nI p, sT_fnd T (nI 0)) := by
          rw [aAs, hxp, hxk, c_5, c_17, c_36]
          simp
        rw [e]
        exact ⟨rfl, hM.fnd _, fun o ho => vm_upd_n _ _ _ (by omega)⟩
    · refine q_ldc F dX8_as_20 wX8_52 ?_
      refine K _ _ _ _ ?_ dX8_as_22 rfl
      have e : aAs T (nI p) y = (sBAD, T) := by
        simp [aAs, c_5, c_17]
      rw [e]
      exact ⟨rfl, hM, fun _ _ => rfl⟩
def mLv (σ σ' : vm_M) : Prop := (∀ o, o ≠ 202 → o ≠ 209 → σ' o = σ o) ∧ ∀ k, k ≠ 11 → σ' 202 k = σ 202 k
theorem mLv.tr {σ σ1 σ2 : vm_M} (h : mLv σ σ1) (h2 : mLv σ1 σ2) : mLv σ σ2 := ⟨fun o a b => (h2.1 o a b).trans (h.1 o a b), fun k hk => (h2.2 k hk).trans (h.2 k hk)⟩
theorem mLv.rf {σ : vm_M} : mLv σ σ := ⟨fun _ _ _ => rfl, fun _ _ => rfl⟩
theorem mFix.lv {σ σ' : vm_M} {v : vm_V} (h : mFix σ 0 v) (hf : mLv σ σ') : mFix σ' 0 v := by unfold mFix at *; rw [hf.1 203 (by omega) (by omega)]; exact h
theorem mMov.lv {σ σ' : vm_M} {v : vm_V} {b : Nat} (h : mMov σ 203 b v) (hf : mLv σ σ') : mMov σ' 203 b v := by unfold mMov at *; rw [hf.1 203 (by omega) (by omega)]; exact h
theorem MInv.tr {σ σ' : vm_M} {T : vm_T} (h : MInv σ T) {t : Nat × (Nat → Int32)} (h1 : mTr σ' t.1 t.2) (hf : mLv σ σ') : MInv σ' (sT_tr T t) := by
  obtain ⟨g1, g2, g3, g4, g5, g6, g7, g8⟩ := h
  obtain ⟨e, d⟩ := hf
  refine ⟨?_, ?_, ?_, ?_, ?_, h1, (d _ (by omega)).trans g7, (d _ (by omega)).trans g8⟩
  · unfold mRows; rw [e 206 (by omega) (by omega), e 207 (by omega) (by omega), e 208 (by omega) (by omega)]; exact g1
  · unfold mTape; rw [d 4 (by omega), e 205 (by omega) (by omega)]; exact g2
  · unfold mSec mFix mMov at *; rw [e 203 (by omega) (by omega)]; exact g3
  · unfold mPast mMov at *; rw [d 2 (by omega), e 204 (by omega) (by omega)]; exact g4
  · unfold mImg mSec mFix mMov at *; rw [e 203 (by omega) (by omega)]; exact g5
set_option maxHeartbeats 4000000 in
set_option maxRecDepth 100000 in
theorem m_leave {G : vm_G} {σ : vm_M} {t : Nat × (Nat → Int32)} (hT : mTr σ t.1 t.2) (ht : t.1 ≤ 16) (x : Nat) : vm_RV G 0 mX8_leave [.ref 202, .int (nI x)] σ (fun σ' => mTr σ' (sLvs [x] t).1 (sLvs [x] t).2 ∧ mLv σ σ') := by
  refine vm_void (y := mX8_leave) (by decide) (Nat.le_of_ble_eq_true rfl) (ls0 := [some (.ref 202), some (.int (nI x))]) rfl rfl (fun C F K => ?_)
  have F : vm_F G C cX8_leave RX8 2 _ := F
  show vm_Ex G C 2 0 [some (.ref 202), some (.int (nI x))] [] _
  refine q_aload_n F 0 dX8_leave_0 rfl rfl ?_
  refine gX8_225 F dX8_leave_1 sh_202 rfl ?_
  refine q_top (.int (nI t.1)) (congrArg Value.int (hT.1)) ?_
  refine q_bipush F (nI 16) dX8_leave_4 (by decide) ?_
  refine n_ge F 29 dX8_leave_6 (by decide) (by omega) (by omega) (fun c_6 => ?_) (fun c_6 => ?_)
  · refine K _ _ _ ?_ dX8_leave_29
    have e : sLvs [x] t = t := by
      show sLv (nI x) t = t
      unfold sLv
      rw [if_neg (by omega)]
    rw [e]
    exact ⟨hT, mLv.rf⟩
  · refine q_aload_n F 0 dX8_leave_9 rfl rfl ?_
    refine gX8_29 F dX8_leave_10 sh_202 rfl ?_
    refine q_aload_n F 0 dX8_leave_13 rfl rfl ?_
    refine gX8_225 F dX8_leave_14 sh_202 rfl ?_
    refine q_top (.int (nI t.1)) (congrArg Value.int (hT.1)) ?_
    refine q_iload_n F 1 dX8_leave_17 rfl rfl ?_
    refine q_iast F dX8_leave_18 sh_209 (by omega) (by decide) ?_
    refine q_aload_n F 0 dX8_leave_19 rfl rfl ?_
    refine q_dup F dX8_leave_20 rfl ?_
    refine gX8_225 F dX8_leave_21 sh_202 rfl ?_
    refine q_top (.int (nI t.1)) (congrArg Value.int (by rw [vm_upd_n _ _ _ (by omega)]; exact hT.1)) ?_
    refine q_iconst F (nI 1) dX8_leave_24 (by decide) ?_
    refine n_iadd F dX8_leave_25 ?_
    refine pX8_225 F dX8_leave_26 sh_202 rfl ⟨rfl, rfl⟩ ?_
    refine K _ _ _ ?_ dX8_leave_29
    have e : sLvs [x] t = (t.1 + 1, vm_u t.2 t.1 (nI x)) := by
      show sLv (nI x) t = _
      unfold sLv
      rw [if_pos (by omega)]
    rw [e]
    refine ⟨⟨by simp [vm_upd, upd], fun i hi => ?_⟩, fun o a b => by rw [vm_upd_n _ _ _ a, vm_upd_n _ _ _ b], fun k hk => by rw [vm_upd_k _ _ _ hk, vm_upd_n _ _ _ (by omega)]⟩
    rw [vm_upd_n _ _ _ (by omega)]
    have hi : i < t.1 + 1 := hi
    show _ = vm_u t.2 t.1 (nI x) i
    by_cases ei : i = t.1
    · rw [ei, vm_u_s]; simp [vm_upd, upd]
    · rw [vm_u_n ei, vm_upd_k _ _ _ ei]
      exact hT.2 i (by omega)
set_option maxHeartbeats 4000000 in
set_option maxRecDepth 100000 in
theorem m_spotBody {G : vm_G} {σ : vm_M} {v : vm_V} {p : Nat} (hX : mFix σ 0 v) (hM2 : mMov σ 203 (0 + 5) v) (hp : p < V_n v) (hn : V_n v ≤ 6) (hk : V_kd v p < 6) {t : Nat × (Nat → Int32)} (hT : mTr σ t.1 t.2) (ht : t.1 ≤ 16) : vm_RI G 1 mX8_spotBody [.ref 202, .int (nI p)] σ (fun r σ' => r = V_sp v p ∧ mTr σ' (sLvs [10] t).1 (sLvs [10] t).2 ∧ mLv σ σ') := by
  refine vm_int (y := mX8_spotBody) (by decide) (Nat.le_of_ble_eq_true rfl) (ls0 := [some (.ref 202), some (.int (nI p))]) rfl rfl (fun C F K => ?_)
  have F : vm_F G C cX8_spotBody RX8 2 _ := F
  show vm_Ex G C 2 0 [some (.ref 202), some (.int (nI p))] [] _
  refine q_aload_n F 0 dX8_spotBody_0 rfl rfl ?_
  refine q_bipush F (nI 10) dX8_spotBody_1 (by decide) ?_
  refine iX8_228 F dX8_spotBody_3 (m_leave hT ht 10) (by decide) sh_202 rfl rfl (Nat.le_of_ble_eq_true rfl) (fun σ_3 h_3 => ?_)
  obtain ⟨t3, f3⟩ := h_3
  refine q_aload_n F 0 dX8_spotBody_6 rfl rfl ?_
  refine gX8_7 F dX8_spotBody_7 sh_202 rfl ?_
  refine q_bipush F (nI 7) dX8_spotBody_10 (by decide) ?_
  refine q_iload_n F 1 dX8_spotBody_12 rfl rfl ?_
  refine n_iadd F dX8_spotBody_13 ?_
  refine q_iald F dX8_spotBody_14 sh_203 (by omega) (by decide) ?_
  refine q_top (.int (V_sp v p)) (congrArg Value.int (by have h := (hM2.lv f3).aSp (b := 0) hp; rw [Nat.zero_add] at h; exact h)) ?_
  refine K _ _ _ _ ?_ dX8_spotBody_15 rfl
  exact ⟨rfl, t3, f3⟩
set_option maxHeartbeats 4000000 in
set_option maxRecDepth 100000 in
theorem m_numberBody {G : vm_G} {σ : vm_M} {v : vm_V} {p : Nat} (hX : mFix σ 0 v) (hM2 : mMov σ 203 (0 + 5) v) (hp : p < V_n v) (hn : V_n v ≤ 6) (hk : V_kd v p < 6) {t : Nat × (Nat → Int32)} (hT : mTr σ t.1 t.2) (ht : t.1 ≤ 16) : vm_RI G 1 mX8_numberBody [.ref 202, .int (nI p)] σ (fun r σ' => r = nI p ∧ mTr σ' (sLvs [20] t).1 (sLvs [20] t).2 ∧ mLv σ σ') := by
  refine vm_int (y := mX8_numberBody) (by decide) (Nat.le_of_ble_eq_true rfl) (ls0 := [some (.ref 202), some (.int (nI p))]) rfl rfl (fun C F K => ?_)
  have F : vm_F G C cX8_numberBody RX8 2 _ := F
  show vm_Ex G C 2 0 [some (.ref 202), some (.int (nI p))] [] _
  refine q_aload_n F 0 dX8_numberBody_0 rfl rfl ?_
  refine q_bipush F (nI 20) dX8_numberBody_1 (by decide) ?_
  refine iX8_228 F dX8_numberBody_3 (m_leave hT ht 20) (by decide) sh_202 rfl rfl (Nat.le_of_ble_eq_true rfl) (fun σ_3 h_3 => ?_)
  obtain ⟨t3, f3⟩ := h_3
  refine q_iload_n F 1 dX8_numberBody_6 rfl rfl ?_
  refine K _ _ _ _ ?_ dX8_numberBody_7 rfl
  exact ⟨rfl, t3, f3⟩
set_option maxHeartbeats 4000000 in
set_option maxRecDepth 100000 in
theorem m_errandBody {G : vm_G} {σ : vm_M} {v : vm_V} {p : Nat} (hX : mFix σ 0 v) (hM2 : mMov σ 203 (0 + 5) v) (hp : p < V_n v) (hn : V_n v ≤ 6) (hk : V_kd v p < 6) {t : Nat × (Nat → Int32)} (hT : mTr σ t.1 t.2) (ht : t.1 ≤ 16) : vm_RI G 2 mX8_errandBody [.ref 202, .int (nI p)] σ (fun r σ' => r = nI p + nI (V_er v p) ∧ mTr σ' (sLvs [21, 20] t).1 (sLvs [21, 20] t).2 ∧ mLv σ σ') := by
  refine vm_int (y := mX8_errandBody) (by decide) (Nat.le_of_ble_eq_true rfl) (ls0 := [some (.ref 202), some (.int (nI p))]) rfl rfl (fun C F K => ?_)
  have F : vm_F G C cX8_errandBody RX8 2 _ := F
  show vm_Ex G C 2 0 [some (.ref 202), some (.int (nI p))] [] _
  refine q_aload_n F 0 dX8_errandBody_0 rfl rfl ?_
  refine q_bipush F (nI 21) dX8_errandBody_1 (by decide) ?_
  refine iX8_228 F dX8_errandBody_3 (m_leave hT ht 21) (by decide) sh_202 rfl rfl (Nat.le_of_ble_eq_true rfl) (fun σ_3 h_3 => ?_)
  obtain ⟨t3, f3⟩ := h_3
  refine q_aload_n F 0 dX8_errandBody_6 rfl rfl ?_
  refine q_iload_n F 1 dX8_errandBody_7 rfl rfl ?_
  refine iX8_231 F dX8_errandBody_8 (m_numberBody (hX.lv f3) (hM2.lv f3) hp hn hk t3 (sLvs_le [21] _ ht)) (by decide) sh_202 rfl rfl (Nat.le_of_ble_eq_true rfl) (fun v_8 σ_8 h_8 => ?_)
  obtain ⟨r8, t8, f8⟩ := h_8
  obtain rfl := r8
  refine q_aload_n F 0 dX8_errandBody_11 rfl rfl ?_
  refine gX8_7 F dX8_errandBody_12 sh_202 rfl ?_
  refine q_bipush F (nI 13) dX8_errandBody_15 (by decide) ?_
  refine q_iload_n F 1 dX8_errandBody_17 rfl rfl ?_
  refine n_iadd F dX8_errandBody_18 ?_
  refine q_iald F dX8_errandBody_19 sh_203 (by omega) (by decide) ?_
  refine q_top (.int (nI (V_er v p))) (congrArg Value.int (by have h := ((hM2.lv f3).lv f8).aEr (b := 0) hp; rw [Nat.zero_add] at h; exact h)) ?_
  refine q_iadd F dX8_errandBody_20 ?_
  refine K _ _ _ _ ?_ dX8_errandBody_21 rfl
  exact ⟨rfl, t8, f3.tr f8⟩
set_option maxHeartbeats 4000000 in
set_option maxRecDepth 100000 in
theorem m_markOfFat {G : vm_G} {σ : vm_M} {v : vm_V} {p : Nat} (hX : mFix σ 0 v) (hM2 : mMov σ 203 (0 + 5) v) (hp : p < V_n v) (hn : V_n v ≤ 6) (hk : V_kd v p < 6) {t : Nat × (Nat → Int32)} (hT : mTr σ t.1 t.2) (ht : t.1 ≤ 16) (hf : V_kd v p = 1 ∨ V_kd v p = 2 ∨ V_kd v p = 3) : vm_RI G 3 mX8_markOfFat [.ref 202, .int (nI p)] σ (fun r σ' => r = (gMark v p).2 ∧ mTr σ' (sLvs (gMark v p).1 t).1 (sLvs (gMark v p).1 t).2 ∧ mLv σ σ') := by
  refine vm_int (y := mX8_markOfFat) (by decide) (Nat.le_of_ble_eq_true rfl) (ls0 := [some (.ref 202), some (.int (nI p)), none, none]) rfl rfl (fun C F K => ?_)
  have F : vm_F G C cX8_markOfFat RX8 4 _ := F
  show vm_Ex G C 4 0 [some (.ref 202), some (.int (nI p)), none, none] [] _
  refine q_aload_n F 0 dX8_markOfFat_0 rfl rfl ?_
  refine gX8_7 F dX8_markOfFat_1 sh_202 rfl ?_
  refine q_bipush F (nI 19) dX8_markOfFat_4 (by decide) ?_
  refine q_iload_n F 1 dX8_markOfFat_6 rfl rfl ?_
  refine n_iadd F dX8_markOfFat_7 ?_
  refine q_iald F dX8_markOfFat_8 sh_203 (by omega) (by decide) ?_
  refine q_top (.int (nI (V_kd v p))) (congrArg Value.int (hX.aKd hp)) ?_
  refine q_istore_n2 F dX8_markOfFat_9 (by decide) rfl ?_
  refine q_iload_n F 2 dX8_markOfFat_10 rfl rfl ?_
  refine q_iconst F (nI 1) dX8_markOfFat_11 (by decide) ?_
  refine n_ne F 21 dX8_markOfFat_12 (by decide) (by omega) (by omega) (fun c_12 => ?_) (fun c_12 => ?_)
  · refine q_aload_n F 0 dX8_markOfFat_21 rfl rfl ?_
    refine q_iload_n F 2 dX8_markOfFat_22 rfl rfl ?_
    refine q_iconst F (nI 3) dX8_markOfFat_23 (by decide) ?_
    refine n_ne F 32 dX8_markOfFat_24 (by decide) (by omega) (by omega) (fun c_24 => ?_) (fun c_24 => ?_)
    · refine q_bipush F (nI 24) dX8_markOfFat_32 (by decide) ?_
      refine iX8_228 F dX8_markOfFat_34 (m_leave hT ht _) (by decide) sh_202 rfl rfl (Nat.le_of_ble_eq_true rfl) (fun σ_34 h_34 => ?_)
      obtain ⟨t34, f34⟩ := h_34
      refine q_aload_n F 0 dX8_markOfFat_37 rfl rfl ?_
      refine q_iload_n F 1 dX8_markOfFat_38 rfl rfl ?_
      refine iX8_234 F dX8_markOfFat_39 (m_errandBody (hX.lv f34) (hM2.lv f34) hp hn hk t34 (sLvs_le _ _ ht)) (by decide) sh_202 rfl rfl (Nat.le_of_ble_eq_true rfl) (fun v_39 σ_39 h_39 => ?_)
      obtain ⟨r39, t39, f39⟩ := h_39
      obtain rfl := r39
      refine q_istore_n3 F dX8_markOfFat_42 (by decide) rfl ?_
      refine q_iload_n F 2 dX8_markOfFat_43 rfl rfl ?_
      refine q_iconst F (nI 3) dX8_markOfFat_44 (by decide) ?_
      refine n_ne F 56 dX8_markOfFat_45 (by decide) (by omega) (by omega) (fun c_45 => ?_) (fun c_45 => ?_)
      · refine q_iconst F (nI 2) dX8_markOfFat_56 (by decide) ?_
        refine q_iload_n F 3 dX8_markOfFat_57 rfl rfl ?_
        refine q_imul F dX8_markOfFat_58 ?_
        refine K _ _ _ _ ?_ dX8_markOfFat_59 rfl
        have e : gMark v p = ([24, 21, 20], nI 2 * (nI p + nI (V_er v p))) := by
          unfold gMark
          rw [if_neg c_12, if_pos (by omega)]
        rw [e]
        exact ⟨rfl, t39, f34.tr f39⟩
      · exact absurd c_45 c_24
    · refine q_bipush F (nI 22) dX8_markOfFat_27 (by decide) ?_
      refine q_goto F 34 dX8_markOfFat_29 (by decide) ?_
      refine iX8_228 F dX8_markOfFat_34 (m_leave hT ht _) (by decide) sh_202 rfl rfl (Nat.le_of_ble_eq_true rfl) (fun σ_34 h_34 => ?_)
      obtain ⟨t34, f34⟩ := h_34
      refine q_aload_n F 0 dX8_markOfFat_37 rfl rfl ?_
      refine q_iload_n F 1 dX8_markOfFat_38 rfl rfl ?_
      refine iX8_234 F dX8_markOfFat_39 (m_errandBody (hX.lv f34) (hM2.lv f34) hp hn hk t34 (sLvs_le _ _ ht)) (by decide) sh_202 rfl rfl (Nat.le_of_ble_eq_true rfl) (fun v_39 σ_39 h_39 => ?_)
      obtain ⟨r39, t39, f39⟩ := h_39
      obtain rfl := r39
      refine q_istore_n3 F dX8_markOfFat_42 (by decide) rfl ?_
      refine q_iload_n F 2 dX8_markOfFat_43 rfl rfl ?_
      refine q_iconst F (nI 3) dX8_markOfFat_44 (by decide) ?_
      refine n_ne F 56 dX8_markOfFat_45 (by decide) (by omega) (by omega) (fun c_45 => ?_) (fun c_45 => ?_)
      · exact absurd c_24 c_45
      · refine q_iload_n F 3 dX8_markOfFat_48 rfl rfl ?_
        refine q_sipush F (nI 1000) dX8_markOfFat_49 (by decide) ?_
        refine q_isub F dX8_markOfFat_52 ?_
        refine q_goto F 59 dX8_markOfFat_53 (by decide) ?_
        refine K _ _ _ _ ?_ dX8_markOfFat_59 rfl
        have e : gMark v p = ([22, 21, 20], nI p + nI (V_er v p) - nI 1000) := by
          unfold gMark
          rw [if_neg c_12, if_neg (by omega), if_pos c_24]
        rw [e]
        exact ⟨rfl, t39, f34.tr f39⟩
  · refine q_aload_n F 0 dX8_markOfFat_15 rfl rfl ?_
    refine q_iload_n F 1 dX8_markOfFat_16 rfl rfl ?_
    refine iX8_234 F dX8_markOfFat_17 (m_errandBody (hX.lv mLv.rf) (hM2.lv mLv.rf) hp hn hk hT ht) (by decide) sh_202 rfl rfl (Nat.le_of_ble_eq_true rfl) (fun v_17 σ_17 h_17 => ?_)
    obtain ⟨r17, t17, f17⟩ := h_17
    obtain rfl := r17
    refine K _ _ _ _ ?_ dX8_markOfFat_20 rfl
    have e : gMark v p = ([21, 20], nI p + nI (V_er v p)) := by
      unfold gMark
      rw [if_pos c_12]
    rw [e]
    exact ⟨rfl, t17, f17⟩
set_option maxHeartbeats 4000000 in
set_option maxRecDepth 100000 in
theorem m_fatBody {G : vm_G} {σ : vm_M} {v : vm_V} {p : Nat} (hX : mFix σ 0 v) (hM2 : mMov σ 203 (0 + 5) v) (hp : p < V_n v) (hn : V_n v ≤ 6) (hk : V_kd v p < 6) {t : Nat × (Nat → Int32)} (hT : mTr σ t.1 t.2) (ht : t.1 ≤ 16) (hf : V_kd v p = 1 ∨ V_kd v p = 2 ∨ V_kd v p = 3) : vm_RI G 4 mX8_fatBody [.ref 202, .int (nI p)] σ (fun r σ' => r = V_sp v p + (gMark v p).2 ∧ mTr σ' (sLvs (11 :: 10 :: (gMark v p).1) t).1 (sLvs (11 :: 10 :: (gMark v p).1) t).2 ∧ mLv σ σ') := by
  refine vm_int (y := mX8_fatBody) (by decide) (Nat.le_of_ble_eq_true rfl) (ls0 := [some (.ref 202), some (.int (nI p)), none]) rfl rfl (fun C F K => ?_)
  have F : vm_F G C cX8_fatBody RX8 3 _ := F
  show vm_Ex G C 3 0 [some (.ref 202), some (.int (nI p)), none] [] _
  refine q_aload_n F 0 dX8_fatBody_0 rfl rfl ?_
  refine q_bipush F (nI 11) dX8_fatBody_1 (by decide) ?_
  refine iX8_228 F dX8_fatBody_3 (m_leave hT ht 11) (by decide) sh_202 rfl rfl (Nat.le_of_ble_eq_true rfl) (fun σ_3 h_3 => ?_)
  obtain ⟨t3, f3⟩ := h_3
  refine q_aload_n F 0 dX8_fatBody_6 rfl rfl ?_
  refine q_iload_n F 1 dX8_fatBody_7 rfl rfl ?_
  refine iX8_237 F dX8_fatBody_8 (m_spotBody (hX.lv f3) (hM2.lv f3) hp hn hk t3 (sLvs_le [11] _ ht)) (by decide) sh_202 rfl rfl (Nat.le_of_ble_eq_true rfl) (fun v_8 σ_8 h_8 => ?_)
  obtain ⟨r8, t8, f8⟩ := h_8
  obtain rfl := r8
  refine q_istore_n2 F dX8_fatBody_11 (by decide) rfl ?_
  refine q_iload_n F 2 dX8_fatBody_12 rfl rfl ?_
  refine q_aload_n F 0 dX8_fatBody_13 rfl rfl ?_
  refine q_iload_n F 1 dX8_fatBody_14 rfl rfl ?_
  refine iX8_240 F dX8_fatBody_15 (m_markOfFat ((hX.lv f3).lv f8) ((hM2.lv f3).lv f8) hp hn hk t8 (sLvs_le [10] _ (sLvs_le [11] _ ht)) hf) (by decide) sh_202 rfl rfl (Nat.le_of_ble_eq_true rfl) (fun v_15 σ_15 h_15 => ?_)
  obtain ⟨r15, t15, f15⟩ := h_15
  obtain rfl := r15
  refine q_iadd F dX8_fatBody_18 ?_
  refine K _ _ _ _ ?_ dX8_fatBody_19 rfl
  exact ⟨rfl, t15, (f3.tr f8).tr f15⟩
set_option maxHeartbeats 4000000 in
set_option maxRecDepth 100000 in
theorem m_sizeOfFat {G : vm_G} {σ : vm_M} {v : vm_V} {p : Nat} (hX : mFix σ 0 v) (hM2 : mMov σ 203 (0 + 5) v) (hp : p < V_n v) (hn : V_n v ≤ 6) (hk : V_kd v p < 6) {t : Nat × (Nat → Int32)} (hT : mTr σ t.1 t.2) (ht : t.1 ≤ 16) (hf : V_kd v p = 1 ∨ V_kd v p = 2 ∨ V_kd v p = 3) : vm_RI G 5 mX8_sizeOfFat [.ref 202, .int (nI p)] σ (fun r σ' => r = (gSize v p).2 ∧ mTr σ' (sLvs (gSize v p).1 t).1 (sLvs (gSize v p).1 t).2 ∧ mLv σ σ') := by
  refine vm_int (y := mX8_sizeOfFat) (by decide) (Nat.le_of_ble_eq_true rfl) (ls0 := [some (.ref 202), some (.int (nI p))]) rfl rfl (fun C F K => ?_)
  have F : vm_F G C cX8_sizeOfFat RX8 2 _ := F
  show vm_Ex G C 2 0 [some (.ref 202), some (.int (nI p))] [] _
  refine q_aload_n F 0 dX8_sizeOfFat_0 rfl rfl ?_
  refine gX8_7 F dX8_sizeOfFat_1 sh_202 rfl ?_
  refine q_bipush F (nI 19) dX8_sizeOfFat_4 (by decide) ?_
  refine q_iload_n F 1 dX8_sizeOfFat_6 rfl rfl ?_
  refine n_iadd F dX8_sizeOfFat_7 ?_
  refine q_iald F dX8_sizeOfFat_8 sh_203 (by omega) (by decide) ?_
  refine q_top (.int (nI (V_kd v p))) (congrArg Value.int (hX.aKd hp)) ?_
  refine q_iconst F (nI 2) dX8_sizeOfFat_9 (by decide) ?_
  refine n_eq F 19 dX8_sizeOfFat_10 (by decide) (by omega) (by omega) (fun c_10 => ?_) (fun c_10 => ?_)
  · refine q_aload_n F 0 dX8_sizeOfFat_19 rfl rfl ?_
    refine q_bipush F (nI 12) dX8_sizeOfFat_20 (by decide) ?_
    refine iX8_228 F dX8_sizeOfFat_22 (m_leave hT ht 12) (by decide) sh_202 rfl rfl (Nat.le_of_ble_eq_true rfl) (fun σ_22 h_22 => ?_)
    obtain ⟨t22, f22⟩ := h_22
    refine q_aload_n F 0 dX8_sizeOfFat_25 rfl rfl ?_
    refine q_iload_n F 1 dX8_sizeOfFat_26 rfl rfl ?_
    refine iX8_246 F dX8_sizeOfFat_27 (m_fatBody (hX.lv f22) (hM2.lv f22) hp hn hk t22 (sLvs_le [12] _ ht) hf) (by decide) sh_202 rfl rfl (Nat.le_of_ble_eq_true rfl) (fun v_27 σ_27 h_27 => ?_)
    obtain ⟨r27, t27, f27⟩ := h_27
    obtain rfl := r27
    refine q_ineg F dX8_sizeOfFat_30 ?_
    refine K _ _ _ _ ?_ dX8_sizeOfFat_31 rfl
    have e : gSize v p = (12 :: 11 :: 10 :: (gMark v p).1, -(V_sp v p + (gMark v p).2)) := by
      unfold gSize
      unfold gMark
      simp [c_10]
    rw [e]
    exact ⟨rfl, t27, f22.tr f27⟩
  · refine q_aload_n F 0 dX8_sizeOfFat_13 rfl rfl ?_
    refine q_iload_n F 1 dX8_sizeOfFat_14 rfl rfl ?_
    refine iX8_246 F dX8_sizeOfFat_15 (m_fatBody hX hM2 hp hn hk hT ht hf) (by decide) sh_202 rfl rfl (Nat.le_of_ble_eq_true rfl) (fun v_15 σ_15 h_15 => ?_)
    obtain ⟨r15, t15, f15⟩ := h_15
    obtain rfl := r15
    refine K _ _ _ _ ?_ dX8_sizeOfFat_18 rfl
    have e : gSize v p = (11 :: 10 :: (gMark v p).1, V_sp v p + (gMark v p).2) := by
      unfold gSize
      unfold gMark
      rcases hf with h | h | h
      · simp [h]
      · exact absurd h c_10
      · simp [h]
    rw [e]
    exact ⟨rfl, t15, f15⟩
set_option maxHeartbeats 4000000 in
set_option maxRecDepth 100000 in
theorem m_monkBody {G : vm_G} {σ : vm_M} {v : vm_V} {p : Nat} (hX : mFix σ 0 v) (hM2 : mMov σ 203 (0 + 5) v) (hp : p < V_n v) (hn : V_n v ≤ 6) (hk : V_kd v p < 6) {t : Nat × (Nat → Int32)} (hT : mTr σ t.1 t.2) (ht : t.1 ≤ 16) : vm_RI G 2 mX8_monkBody [.ref 202, .int (nI p)] σ (fun r σ' => r = V_sp v p - nI 100 ∧ mTr σ' (sLvs [13, 10] t).1 (sLvs [13, 10] t).2 ∧ mLv σ σ') := by
  refine vm_int (y := mX8_monkBody) (by decide) (Nat.le_of_ble_eq_true rfl) (ls0 := [some (.ref 202), some (.int (nI p))]) rfl rfl (fun C F K => ?_)
  have F : vm_F G C cX8_monkBody RX8 2 _ := F
  show vm_Ex G C 2 0 [some (.ref 202), some (.int (nI p))] [] _
  refine q_aload_n F 0 dX8_monkBody_0 rfl rfl ?_
  refine q_bipush F (nI 13) dX8_monkBody_1 (by decide) ?_
  refine iX8_228 F dX8_monkBody_3 (m_leave hT ht 13) (by decide) sh_202 rfl rfl (Nat.le_of_ble_eq_true rfl) (fun σ_3 h_3 => ?_)
  obtain ⟨t3, f3⟩ := h_3
  refine q_aload_n F 0 dX8_monkBody_6 rfl rfl ?_
  refine q_iload_n F 1 dX8_monkBody_7 rfl rfl ?_
  refine iX8_237 F dX8_monkBody_8 (m_spotBody (hX.lv f3) (hM2.lv f3) hp hn hk t3 (sLvs_le [13] _ ht)) (by decide) sh_202 rfl rfl (Nat.le_of_ble_eq_true rfl) (fun v_8 σ_8 h_8 => ?_)
  obtain ⟨r8, t8, f8⟩ := h_8
  obtain rfl := r8
  refine q_bipush F (nI 100) dX8_monkBody_11 (by decide) ?_
  refine q_isub F dX8_monkBody_13 ?_
  refine K _ _ _ _ ?_ dX8_monkBody_14 rfl
  exact ⟨rfl, t8, f3.tr f8⟩
set_option maxHeartbeats 4000000 in
set_option maxRecDepth 100000 in
theorem m_sizeOfMonk {G : vm_G} {σ : vm_M} {v : vm_V} {p : Nat} (hX : mFix σ 0 v) (hM2 : mMov σ 203 (0 + 5) v) (hp : p < V_n v) (hn : V_n v ≤ 6) (hk : V_kd v p < 6) {t : Nat × (Nat → Int32)} (hT : mTr σ t.1 t.2) (ht : t.1 ≤ 16) (hf : V_kd v p = 4 ∨ V_kd v p = 5) : vm_RI G 3 mX8_sizeOfMonk [.ref 202, .int (nI p)] σ (fun r σ' => r = (gSize v p).2 ∧ mTr σ' (sLvs (gSize v p).1 t).1 (sLvs (gSize v p).1 t).2 ∧ mLv σ σ') := by
  refine vm_int (y := mX8_sizeOfMonk) (by decide) (Nat.le_of_ble_eq_true rfl) (ls0 := [some (.ref 202), some (.int (nI p))]) rfl rfl (fun C F K => ?_)
  have F : vm_F G C cX8_sizeOfMonk RX8 2 _ := F
  show vm_Ex G C 2 0 [some (.ref 202), some (.int (nI p))] [] _
  refine q_aload_n F 0 dX8_sizeOfMonk_0 rfl rfl ?_
  refine gX8_7 F dX8_sizeOfMonk_1 sh_202 rfl ?_
  refine q_bipush F (nI 19) dX8_sizeOfMonk_4 (by decide) ?_
  refine q_iload_n F 1 dX8_sizeOfMonk_6 rfl rfl ?_
  refine n_iadd F dX8_sizeOfMonk_7 ?_
  refine q_iald F dX8_sizeOfMonk_8 sh_203 (by omega) (by decide) ?_
  refine q_top (.int (nI (V_kd v p))) (congrArg Value.int (hX.aKd hp)) ?_
  refine q_iconst F (nI 4) dX8_sizeOfMonk_9 (by decide) ?_
  refine n_ne F 19 dX8_sizeOfMonk_10 (by decide) (by omega) (by omega) (fun c_10 => ?_) (fun c_10 => ?_)
  · refine q_aload_n F 0 dX8_sizeOfMonk_19 rfl rfl ?_
    refine q_bipush F (nI 14) dX8_sizeOfMonk_20 (by decide) ?_
    refine iX8_228 F dX8_sizeOfMonk_22 (m_leave hT ht 14) (by decide) sh_202 rfl rfl (Nat.le_of_ble_eq_true rfl) (fun σ_22 h_22 => ?_)
    obtain ⟨t22, f22⟩ := h_22
    refine q_iconst F (nI 2) dX8_sizeOfMonk_25 (by decide) ?_
    refine q_aload_n F 0 dX8_sizeOfMonk_26 rfl rfl ?_
    refine q_iload_n F 1 dX8_sizeOfMonk_27 rfl rfl ?_
    refine iX8_243 F dX8_sizeOfMonk_28 (m_monkBody (hX.lv f22) (hM2.lv f22) hp hn hk t22 (sLvs_le [14] _ ht)) (by decide) sh_202 rfl rfl (Nat.le_of_ble_eq_true rfl) (fun v_28 σ_28 h_28 => ?_)
    obtain ⟨r28, t28, f28⟩ := h_28
    obtain rfl := r28
    refine q_imul F dX8_sizeOfMonk_31 ?_
    refine K _ _ _ _ ?_ dX8_sizeOfMonk_32 rfl
    have e : gSize v p = ([14, 13, 10], nI 2 * (V_sp v p - nI 100)) := by
      unfold gSize
      have h : V_kd v p = 5 := by omega
      simp [h]
    rw [e]
    exact ⟨rfl, t28, f22.tr f28⟩
  · refine q_aload_n F 0 dX8_sizeOfMonk_13 rfl rfl ?_
    refine q_iload_n F 1 dX8_sizeOfMonk_14 rfl rfl ?_
    refine iX8_243 F dX8_sizeOfMonk_15 (m_monkBody (hX.lv mLv.rf) (hM2.lv mLv.rf) hp hn hk hT ht) (by decide) sh_202 rfl rfl (Nat.le_of_ble_eq_true rfl) (fun v_15 σ_15 h_15 => ?_)
    obtain ⟨r15, t15, f15⟩ := h_15
    obtain rfl := r15
    refine K _ _ _ _ ?_ dX8_sizeOfMonk_18 rfl
    have e : gSize v p = ([13, 10], V_sp v p - nI 100) := by
      unfold gSize
      simp [c_10]
    rw [e]
    exact ⟨rfl, t15, f15⟩
set_option maxHeartbeats 4000000 in
set_option maxRecDepth 100000 in
theorem m_markOfMonk {G : vm_G} {σ : vm_M} {v : vm_V} {p : Nat} (hX : mFix σ 0 v) (hM2 : mMov σ 203 (0 + 5) v) (hp : p < V_n v) (hn : V_n v ≤ 6) (hk : V_kd v p < 6) {t : Nat × (Nat → Int32)} (hT : mTr σ t.1 t.2) (ht : t.1 ≤ 16) (hf : V_kd v p = 4 ∨ V_kd v p = 5) : vm_RI G 4 mX8_markOfMonk [.ref 202, .int (nI p)] σ (fun r σ' => r = (gMark v p).2 ∧ mTr σ' (sLvs (gMark v p).1 t).1 (sLvs (gMark v p).1 t).2 ∧ mLv σ σ') := by
  refine vm_int (y := mX8_markOfMonk) (by decide) (Nat.le_of_ble_eq_true rfl) (ls0 := [some (.ref 202), some (.int (nI p)), none]) rfl rfl (fun C F K => ?_)
  have F : vm_F G C cX8_markOfMonk RX8 3 _ := F
  show vm_Ex G C 3 0 [some (.ref 202), some (.int (nI p)), none] [] _
  refine q_aload_n F 0 dX8_markOfMonk_0 rfl rfl ?_
  refine q_bipush F (nI 23) dX8_markOfMonk_1 (by decide) ?_
  refine iX8_228 F dX8_markOfMonk_3 (m_leave hT ht 23) (by decide) sh_202 rfl rfl (Nat.le_of_ble_eq_true rfl) (fun σ_3 h_3 => ?_)
  obtain ⟨t3, f3⟩ := h_3
  refine q_aload_n F 0 dX8_markOfMonk_6 rfl rfl ?_
  refine q_iload_n F 1 dX8_markOfMonk_7 rfl rfl ?_
  refine iX8_231 F dX8_markOfMonk_8 (m_numberBody (hX.lv f3) (hM2.lv f3) hp hn hk t3 (sLvs_le [23] _ ht)) (by decide) sh_202 rfl rfl (Nat.le_of_ble_eq_true rfl) (fun v_8 σ_8 h_8 => ?_)
  obtain ⟨r8, t8, f8⟩ := h_8
  obtain rfl := r8
  refine q_istore_n2 F dX8_markOfMonk_11 (by decide) rfl ?_
  refine q_iload_n F 2 dX8_markOfMonk_12 rfl rfl ?_
  refine q_aload_n F 0 dX8_markOfMonk_13 rfl rfl ?_
  refine q_iload_n F 1 dX8_markOfMonk_14 rfl rfl ?_
  refine iX8_249 F dX8_markOfMonk_15 (m_sizeOfMonk ((hX.lv f3).lv f8) ((hM2.lv f3).lv f8) hp hn hk t8 (sLvs_le [20] _ (sLvs_le [23] _ ht)) hf) (by decide) sh_202 rfl rfl (Nat.le_of_ble_eq_true rfl) (fun v_15 σ_15 h_15 => ?_)
  obtain ⟨r15, t15, f15⟩ := h_15
  obtain rfl := r15
  refine q_isub F dX8_markOfMonk_18 ?_
  refine K _ _ _ _ ?_ dX8_markOfMonk_19 rfl
  have e : gMark v p = (23 :: 20 :: (gSize v p).1, nI p - (gSize v p).2) := by
    unfold gMark gSize
    rcases hf with h | h <;> simp [h]
  rw [e]
  exact ⟨rfl, t15, (f3.tr f8).tr f15⟩
theorem fat_y : ∀ k, k < 6 → sIs k 1 = true → k = 1 ∨ k = 2 ∨ k = 3 := by decide +kernel
theorem fat_n : ∀ k, k < 6 → 1 ≤ k → sIs k 1 = false → k = 4 ∨ k = 5 := by decide +kernel
set_option maxHeartbeats 4000000 in
set_option maxRecDepth 100000 in
theorem m_ask {G : vm_G} {σ : vm_M} {T : vm_T} (hM : MInv σ T) (hI : SInv T) (x w : Int32) : vm_RI G 6 mX8_ask [.ref 202, .int x, .int w] σ (mPost σ (aAsk T x w)) := by
  refine vm_int (y := mX8_ask) (by decide) (Nat.le_of_ble_eq_true rfl) (ls0 := [some (.ref 202), some (.int x), some (.int w), none]) rfl rfl (fun C F K => ?_)
  have F : vm_F G C cX8_ask RX8 4 _ := F
  show vm_Ex G C 4 0 [some (.ref 202), some (.int x), some (.int w), none] [] _
  obtain ⟨hR, hTp, ⟨hHp, hS⟩, hPs, hIm, hTr, hFl, hFn⟩ := id hM
  have hX := hS.1
  have hM2 : mMov σ 203 (0 + 5) (T_nw T) := hS.2.2
  have hG := hI.1
  have hOk := hG.1
  have hn : V_n (T_nw T) ≤ 6 := hOk.1
  refine q_aload_n F 0 dX8_ask_0 rfl rfl ?_
  refine q_iload_n F 1 dX8_ask_1 rfl rfl ?_
  refine iX8_168 F dX8_ask_2 (m_isPerson hX.aN hn _) (by decide) sh_202 rfl rfl (Nat.le_of_ble_eq_true rfl) (fun v_2 σ_2 h_2 => ?_)
  obtain ⟨rfl, h_2⟩ := h_2
  obtain rfl := h_2.symm
  refine b_eq F 18 dX8_ask_5 (by decide) (fun c_5 => ?_) (fun c_5 => ?_)
  · refine q_ldc F dX8_ask_18 wX8_52 ?_
    refine K _ _ _ _ ?_ dX8_ask_20 rfl
    have e : aAsk T x w = (sBAD, T) := by
      simp [aAsk, c_5]
    rw [e]
    exact ⟨rfl, hM, fun _ _ => rfl⟩
  · obtain ⟨p, hpp, rfl⟩ := wi_of c_5
    have hxp := xN_nI (show p < 2 ^ 31 by omega)
    refine q_iload_n F 2 dX8_ask_8 rfl rfl ?_
    refine q_i2l F dX8_ask_9 ?_
    refine q_lconst F (lN 0) dX8_ask_10 (by decide) ?_
    refine q_lconst F (lN 1) dX8_ask_11 (by decide) ?_
    refine iX8_42 F dX8_ask_12 (m_in _ _ _) (by decide) rfl rfl (Nat.le_of_ble_eq_true rfl) (fun v_12 σ_12 h_12 => ?_)
    obtain ⟨rfl, h_12⟩ := h_12
    obtain rfl := h_12.symm
    refine q_top (.int (bI (wi w 2))) (congrArg Value.int (by rw [in_wi (n := 2) (by decide) (by decide)])) ?_
    refine b_ne F 21 dX8_ask_15 (by decide) (fun c_15 => ?_) (fun c_15 => ?_)
    · obtain ⟨w, hpw, rfl⟩ := wi_of c_15
      have hxw := xN_nI (show w < 2 ^ 31 by omega)
      refine q_aload_n F 0 dX8_ask_21 rfl rfl ?_
      refine q_iconst F (nI 0) dX8_ask_22 (by decide) ?_
      refine pX8_225 F dX8_ask_23 sh_202 rfl ⟨rfl, rfl⟩ ?_
      have hT1 : mTr (vm_upd σ 202 11 (nI 0)) (0, T_tr T).1 (0, T_tr T).2 := ⟨by simp [vm_upd, upd], fun i hi => absurd hi (Nat.not_lt_zero _)⟩
      have hf1 : mLv σ (vm_upd σ 202 11 (nI 0)) := ⟨fun o a _ => vm_upd_n _ _ _ a, fun k hk => vm_upd_k _ _ _ hk⟩
      have hX1 := hX.lv hf1
      have hM1 := hM2.lv hf1
      have hk1 := hG.2.2.2 p hpp
      have hk6 := hOk.2.2.1 p
      refine q_aload_n F 0 dX8_ask_26 rfl rfl ?_
      refine gX8_7 F dX8_ask_27 sh_202 rfl ?_
      refine q_bipush F (nI 19) dX8_ask_30 (by decide) ?_
      refine q_iload_n F 1 dX8_ask_32 rfl rfl ?_
      refine n_iadd F dX8_ask_33 ?_
      refine q_iald F dX8_ask_34 sh_203 (by omega) (by decide) ?_
      refine q_top (.int (nI (V_kd (T_nw T) p))) (congrArg Value.int (hX1.aKd hpp)) ?_
      refine q_iconst F (nI 1) dX8_ask_35 (by decide) ?_
      refine iX8_222 F dX8_ask_36 (m_isKind (a := 1) hk6 (by decide)) (by decide) rfl rfl (Nat.le_of_ble_eq_true rfl) (fun v_36 σ_36 h_36 => ?_)
      obtain ⟨rfl, h_36⟩ := h_36
      obtain rfl := h_36
      refine q_istore_n3 F dX8_ask_39 (by decide) rfl ?_
      refine q_iload_n F 2 dX8_ask_40 rfl rfl ?_
      refine z_ne F 64 dX8_ask_41 (by decide) (by omega) (fun c_41 => ?_) (fun c_41 => ?_)
      · refine q_iload_n F 3 dX8_ask_64 rfl rfl ?_
        refine b_eq F 76 dX8_ask_65 (by decide) (fun c_65 => ?_) (fun c_65 => ?_)
        · have hf : V_kd (T_nw T) p = 4 ∨ V_kd (T_nw T) p = 5 := fat_n _ hk6 hk1 c_65
          refine q_aload_n F 0 dX8_ask_76 rfl rfl ?_
          refine q_iload_n F 1 dX8_ask_77 rfl rfl ?_
          refine iX8_255 F dX8_ask_78 (m_markOfMonk hX1 hM1 hpp hn (hOk.2.2.1 p) hT1 (Nat.zero_le 16) hf) (by decide) sh_202 rfl rfl (Nat.le_of_ble_eq_true rfl) (fun v_78 σ_78 h_78 => ?_)
          obtain ⟨r78, t78, f78⟩ := h_78
          obtain rfl := r78
          refine K _ _ _ _ ?_ dX8_ask_81 rfl
          have e : aAsk T (nI p) (nI w) = ((gMark (T_nw T) p).2, sT_tr T (sLvs (gMark (T_nw T) p).1 (0, T_tr T))) := by
            unfold aAsk
            rw [hxp, if_neg (by simp [c_5, c_15]), if_neg (i_ne c_41 (by omega) (by omega))]
          rw [e]
          exact ⟨rfl, hM.tr t78 (hf1.tr f78), fun o ho => (hf1.tr f78).1 o (by omega) (by omega)⟩
        · have hf : V_kd (T_nw T) p = 1 ∨ V_kd (T_nw T) p = 2 ∨ V_kd (T_nw T) p = 3 := fat_y _ hk6 c_65
          refine q_aload_n F 0 dX8_ask_68 rfl rfl ?_
          refine q_iload_n F 1 dX8_ask_69 rfl rfl ?_
          refine iX8_240 F dX8_ask_70 (m_markOfFat hX1 hM1 hpp hn (hOk.2.2.1 p) hT1 (Nat.zero_le 16) hf) (by decide) sh_202 rfl rfl (Nat.le_of_ble_eq_true rfl) (fun v_70 σ_70 h_70 => ?_)
          obtain ⟨r70, t70, f70⟩ := h_70
          obtain rfl := r70
          refine q_goto F 81 dX8_ask_73 (by decide) ?_
          refine K _ _ _ _ ?_ dX8_ask_81 rfl
          have e : aAsk T (nI p) (nI w) = ((gMark (T_nw T) p).2, sT_tr T (sLvs (gMark (T_nw T) p).1 (0, T_tr T))) := by
            unfold aAsk
            rw [hxp, if_neg (by simp [c_5, c_15]), if_neg (i_ne c_41 (by omega) (by omega))]
          rw [e]
          exact ⟨rfl, hM.tr t70 (hf1.tr f70), fun o ho => (hf1.tr f70).1 o (by omega) (by omega)⟩
      · refine q_iload_n F 3 dX8_ask_44 rfl rfl ?_
        refine b_eq F 56 dX8_ask_45 (by decide) (fun c_45 => ?_) (fun c_45 => ?_)
        · have hf : V_kd (T_nw T) p = 4 ∨ V_kd (T_nw T) p = 5 := fat_n _ hk6 hk1 c_45
          refine q_aload_n F 0 dX8_ask_56 rfl rfl ?_
          refine q_iload_n F 1 dX8_ask_57 rfl rfl ?_
          refine iX8_249 F dX8_ask_58 (m_sizeOfMonk hX1 hM1 hpp hn (hOk.2.2.1 p) hT1 (Nat.zero_le 16) hf) (by decide) sh_202 rfl rfl (Nat.le_of_ble_eq_true rfl) (fun v_58 σ_58 h_58 => ?_)
          obtain ⟨r58, t58, f58⟩ := h_58
          obtain rfl := r58
          refine q_goto F 81 dX8_ask_61 (by decide) ?_
          refine K _ _ _ _ ?_ dX8_ask_81 rfl
          have e : aAsk T (nI p) (nI w) = ((gSize (T_nw T) p).2, sT_tr T (sLvs (gSize (T_nw T) p).1 (0, T_tr T))) := by
            unfold aAsk
            rw [hxp, if_neg (by simp [c_5, c_15]), if_pos (by rw [c_41])]
          rw [e]
          exact ⟨rfl, hM.tr t58 (hf1.tr f58), fun o ho => (hf1.tr f58).1 o (by omega) (by omega)⟩
        · have hf : V_kd (T_nw T) p = 1 ∨ V_kd (T_nw T) p = 2 ∨ V_kd (T_nw T) p = 3 := fat_y _ hk6 c_45
          refine q_aload_n F 0 dX8_ask_48 rfl rfl ?_
          refine q_iload_n F 1 dX8_ask_49 rfl rfl ?_
          refine iX8_252 F dX8_ask_50 (m_sizeOfFat hX1 hM1 hpp hn (hOk.2.2.1 p) hT1 (Nat.zero_le 16) hf) (by decide) sh_202 rfl rfl (Nat.le_of_ble_eq_true rfl) (fun v_50 σ_50 h_50 => ?_)
          obtain ⟨r50, t50, f50⟩ := h_50
          obtain rfl := r50
          refine q_goto F 81 dX8_ask_53 (by decide) ?_
          refine K _ _ _ _ ?_ dX8_ask_81 rfl
          have e : aAsk T (nI p) (nI w) = ((gSize (T_nw T) p).2, sT_tr T (sLvs (gSize (T_nw T) p).1 (0, T_tr T))) := by
            unfold aAsk
            rw [hxp, if_neg (by simp [c_5, c_15]), if_pos (by rw [c_41])]
          rw [e]
          exact ⟨rfl, hM.tr t50 (hf1.tr f50), fun o ho => (hf1.tr f50).1 o (by omega) (by omega)⟩
    · refine q_ldc F dX8_ask_18 wX8_52 ?_
      refine K _ _ _ _ ?_ dX8_ask_20 rfl
      have e : aAsk T (nI p) w = (sBAD, T) := by
        simp [aAsk, c_5, c_15]
      rw [e]
      exact ⟨rfl, hM, fun _ _ => rfl⟩
set_option maxHeartbeats 4000000 in
set_option maxRecDepth 100000 in
theorem m_trace {G : vm_G} {σ : vm_M} {T : vm_T} (hM : MInv σ T) (hI : SInv T) (x : Int32) : vm_RI G 1 mX8_trace [.ref 202, .int x] σ (mPost σ (aTrace T x)) := by
  refine vm_int (y := mX8_trace) (by decide) (Nat.le_of_ble_eq_true rfl) (ls0 := [some (.ref 202), some (.int x)]) rfl rfl (fun C F K => ?_)
  have F : vm_F G C cX8_trace RX8 2 _ := F
  show vm_Ex G C 2 0 [some (.ref 202), some (.int x)] [] _
  obtain ⟨hR, hTp, ⟨hHp, hS⟩, hPs, hIm, hTr, hFl, hFn⟩ := id hM
  have hX := hS.1
  have hM2 : mMov σ 203 (0 + 5) (T_nw T) := hS.2.2
  have hG := hI.1
  have hOk := hG.1
  have hn : V_n (T_nw T) ≤ 6 := hOk.1
  have htn := hI.2.2.2.2.2.2.2.2.2
  refine q_iload_n F 1 dX8_trace_0 rfl rfl ?_
  refine q_i2l F dX8_trace_1 ?_
  refine q_lconst F (lN 0) dX8_trace_2 (by decide) ?_
  refine q_aload_n F 0 dX8_trace_3 rfl rfl ?_
  refine gX8_225 F dX8_trace_4 sh_202 rfl ?_
  refine q_top (.int (nI (T_tn T))) (congrArg Value.int (hTr.1)) ?_
  refine q_iconst F (nI 1) dX8_trace_7 (by decide) ?_
  refine q_isub F dX8_trace_8 ?_
  refine q_i2l F dX8_trace_9 ?_
  refine iX8_42 F dX8_trace_10 (m_in _ _ _) (by decide) rfl rfl (Nat.le_of_ble_eq_true rfl) (fun v_10 σ_10 h_10 => ?_)
  obtain ⟨rfl, h_10⟩ := h_10
  obtain rfl := h_10.symm
  refine q_top (.int (bI (wi x (T_tn T)))) (congrArg Value.int (by rw [in_wi (n := T_tn T) (by decide) (sz_m1 _ (by omega))])) ?_
  refine b_eq F 25 dX8_trace_13 (by decide) (fun c_13 => ?_) (fun c_13 => ?_)
  · refine q_ldc F dX8_trace_25 wX8_19 ?_
    refine K _ _ _ _ ?_ dX8_trace_27 rfl
    have e : aTrace T x = (sNONE, T) := by
      simp [aTrace, c_13]
    rw [e]
    exact ⟨rfl, hM, fun _ _ => rfl⟩
  · obtain ⟨i, hpi, rfl⟩ := wi_of c_13
    have hxi := xN_nI (show i < 2 ^ 31 by omega)
    refine q_aload_n F 0 dX8_trace_16 rfl rfl ?_
    refine gX8_29 F dX8_trace_17 sh_202 rfl ?_
    refine q_iload_n F 1 dX8_trace_20 rfl rfl ?_
    refine q_iald F dX8_trace_21 sh_209 (by omega) (by decide) ?_
    refine q_top (.int (T_tr T i)) (congrArg Value.int (hTr.2 i hpi)) ?_
    refine q_goto F 27 dX8_trace_22 (by decide) ?_
    refine K _ _ _ _ ?_ dX8_trace_27 rfl
    have e : aTrace T (nI i) = (T_tr T i, T) := by
      simp [aTrace, c_13, hxi]
    rw [e]
    exact ⟨rfl, hM, fun _ _ => rfl⟩
set_option maxHeartbeats 4000000 in
set_option maxRecDepth 100000 in
theorem m_fault {G : vm_G} {σ : vm_M} {T : vm_T} (hM : MInv σ T) (hI : SInv T) : vm_RI G 0 mX8_fault [.ref 202] σ (mPost σ (aFault T)) := by
  refine vm_int (y := mX8_fault) (by decide) (Nat.le_of_ble_eq_true rfl) (ls0 := [some (.ref 202)]) rfl rfl (fun C F K => ?_)
  have F : vm_F G C cX8_fault RX8 1 _ := F
  show vm_Ex G C 1 0 [some (.ref 202)] [] _
  obtain ⟨hR, hTp, ⟨hHp, hS⟩, hPs, hIm, hTr, hFl, hFn⟩ := id hM
  have hX := hS.1
  have hM2 : mMov σ 203 (0 + 5) (T_nw T) := hS.2.2
  have hG := hI.1
  have hOk := hG.1
  have hn : V_n (T_nw T) ≤ 6 := hOk.1
  refine q_aload_n F 0 dX8_fault_0 rfl rfl ?_
  refine gX8_90 F dX8_fault_1 sh_202 rfl ?_
  refine q_top (.int (T_flt T)) (congrArg Value.int (hFl)) ?_
  refine K _ _ _ _ ?_ dX8_fault_4 rfl
  exact ⟨rfl, hM, fun _ _ => rfl⟩
set_option maxHeartbeats 4000000 in
set_option maxRecDepth 100000 in
theorem m_status {G : vm_G} {σ : vm_M} {T : vm_T} (hM : MInv σ T) (hI : SInv T) : vm_RI G 0 mX8_status [.ref 202] σ (mPost σ (aStatus T)) := by
  refine vm_int (y := mX8_status) (by decide) (Nat.le_of_ble_eq_true rfl) (ls0 := [some (.ref 202)]) rfl rfl (fun C F K => ?_)
  have F : vm_F G C cX8_status RX8 1 _ := F
  show vm_Ex G C 1 0 [some (.ref 202)] [] _
  obtain ⟨hR, hTp, ⟨hHp, hS⟩, hPs, hIm, hTr, hFl, hFn⟩ := id hM
  have hX := hS.1
  have hM2 : mMov σ 203 (0 + 5) (T_nw T) := hS.2.2
  have hG := hI.1
  have hOk := hG.1
  have hn : V_n (T_nw T) ≤ 6 := hOk.1
  refine q_aload_n F 0 dX8_status_0 rfl rfl ?_
  refine gX8_35 F dX8_status_1 sh_202 rfl ?_
  refine q_top (.int (T_fnd T)) (congrArg Value.int (hFn)) ?_
  refine K _ _ _ _ ?_ dX8_status_4 rfl
  exact ⟨rfl, hM, fun _ _ => rfl⟩
set_option maxHeartbeats 4000000 in
set_option maxRecDepth 100000 in
theorem m_count {G : vm_G} {σ : vm_M} {T : vm_T} (hM : MInv σ T) (hI : SInv T) (w : Int32) : vm_RI G 1 mX8_count [.ref 202, .int w] σ (mPost σ (aCount T w)) := by
  refine vm_int (y := mX8_count) (by decide) (Nat.le_of_ble_eq_true rfl) (ls0 := [some (.ref 202), some (.int w), none, none]) rfl rfl (fun C F K => ?_)
  have F : vm_F G C cX8_count RX8 4 _ := F
  show vm_Ex G C 4 0 [some (.ref 202), some (.int w), none, none] [] _
  obtain ⟨hR, hTp, ⟨hHp, hS⟩, hPs, hIm, hTr, hFl, hFn⟩ := id hM
  have hX := hS.1
  have hM2 : mMov σ 203 (0 + 5) (T_nw T) := hS.2.2
  have hG := hI.1
  have hOk := hG.1
  have hn : V_n (T_nw T) ≤ 6 := hOk.1
  have L : ∀ k i, i + k = 8 → vm_Ex G C 4 4 [some (.ref 202), some (.int w), some (.int (nI (sThere (T_rl T) i))), some (.int (nI i))] [] σ := by
    intro k
    induction k with
    | zero =>
      intro i hi
      refine q_iload_n F 3 dX8_count_4 rfl rfl ?_
      refine q_bipush F (nI 8) dX8_count_5 (by decide) ?_
      refine n_ge F 35 dX8_count_7 (by decide) (by omega) (by omega) (fun c_7 => ?_) (fun c_7 => ?_)
      · refine q_iload_n F 1 dX8_count_35 rfl rfl ?_
        rcases sw6 w with rfl | rfl | rfl | rfl | rfl | rfl | ⟨hw, h0, h1, h2, h3, h4, h5⟩
        · refine q_tableIn F 76 dX8_count_36 (off := 40) (by decide) (by decide) (by decide) (by decide) ?_
          refine q_iload_n F 2 dX8_count_76 rfl rfl ?_
          refine K _ _ _ _ ?_ dX8_count_77 rfl
          have e : aCount T (nI 0) = (nI (sThere (T_rl T) i), T) := by
            unfold aCount
            rw [if_pos rfl, show i = 8 by omega]
          rw [e]
          exact ⟨rfl, hM, fun _ _ => rfl⟩
        · refine q_tableIn F 78 dX8_count_36 (off := 42) (by decide) (by decide) (by decide) (by decide) ?_
          refine q_aload_n F 0 dX8_count_78 rfl rfl ?_
          refine gX8_7 F dX8_count_79 sh_202 rfl ?_
          refine q_iconst F (nI 3) dX8_count_82 (by decide) ?_
          refine q_iald F dX8_count_83 sh_203 (by omega) (by decide) ?_
          refine q_top (.int (nI (V_n (T_nw T)))) (congrArg Value.int (hX.aN)) ?_
          refine K _ _ _ _ ?_ dX8_count_84 rfl
          have e : aCount T (nI 1) = (nI (V_n (T_nw T)), T) := by
            simp [aCount, nn1]
          rw [e]
          exact ⟨rfl, hM, fun _ _ => rfl⟩
        · refine q_tableIn F 85 dX8_count_36 (off := 49) (by decide) (by decide) (by decide) (by decide) ?_
          refine q_aload_n F 0 dX8_count_85 rfl rfl ?_
          refine gX8_7 F dX8_count_86 sh_202 rfl ?_
          refine q_iconst F (nI 4) dX8_count_89 (by decide) ?_
          refine q_iald F dX8_count_90 sh_203 (by omega) (by decide) ?_
          refine q_top (.int (nI (V_gn (T_nw T)))) (congrArg Value.int (hS.2.1)) ?_
          refine K _ _ _ _ ?_ dX8_count_91 rfl
          have e : aCount T (nI 2) = (nI (V_gn (T_nw T)), T) := by
            simp [aCount, nn2]
          rw [e]
          exact ⟨rfl, hM, fun _ _ => rfl⟩
        · refine q_tableIn F 92 dX8_count_36 (off := 56) (by decide) (by decide) (by decide) (by decide) ?_
          refine q_aload_n F 0 dX8_count_92 rfl rfl ?_
          refine gX8_142 F dX8_count_93 sh_202 rfl ?_
          refine q_top (.int (nI (T_pl T))) (congrArg Value.int (hPs.1)) ?_
          refine K _ _ _ _ ?_ dX8_count_96 rfl
          have e : aCount T (nI 3) = (nI (T_pl T), T) := by
            simp [aCount, nn3]
          rw [e]
          exact ⟨rfl, hM, fun _ _ => rfl⟩
        · refine q_tableIn F 97 dX8_count_36 (off := 61) (by decide) (by decide) (by decide) (by decide) ?_
          refine q_aload_n F 0 dX8_count_97 rfl rfl ?_
          refine gX8_7 F dX8_count_98 sh_202 rfl ?_
          refine q_iconst F (nI 5) dX8_count_101 (by decide) ?_
          refine q_iald F dX8_count_102 sh_203 (by omega) (by decide) ?_
          refine q_top (.int (V_fin (T_nw T))) (congrArg Value.int (hM2.aFin)) ?_
          refine iX8_214 F dX8_count_103 (m_bits _) (by decide) rfl rfl (Nat.le_of_ble_eq_true rfl) (fun v_103 σ_103 h_103 => ?_)
          obtain ⟨rfl, rfl⟩ := h_103
          refine K _ _ _ _ ?_ dX8_count_106 rfl
          have e : aCount T (nI 4) = (sPop (V_fin (T_nw T)), T) := by
            simp [aCount, nn4]
          rw [e]
          exact ⟨rfl, hM, fun _ _ => rfl⟩
        · refine q_tableIn F 107 dX8_count_36 (off := 71) (by decide) (by decide) (by decide) (by decide) ?_
          refine q_aload_n F 0 dX8_count_107 rfl rfl ?_
          refine gX8_66 F dX8_count_108 sh_202 rfl ?_
          refine q_top (.int (nI (T_tl T))) (congrArg Value.int (hTp.1)) ?_
          refine K _ _ _ _ ?_ dX8_count_111 rfl
          have e : aCount T (nI 5) = (nI (T_tl T), T) := by
            simp [aCount, nn5]
          rw [e]
          exact ⟨rfl, hM, fun _ _ => rfl⟩
        · refine q_tableOut F 112 dX8_count_36 hw (by decide) ?_
          refine q_ldc F dX8_count_112 wX8_52 ?_
          refine K _ _ _ _ ?_ dX8_count_114 rfl
          have e : aCount T w = (sBAD, T) := by
            simp [aCount, h0, h1, h2, h3, h4, h5]
          rw [e]
          exact ⟨rfl, hM, fun _ _ => rfl⟩
      · omega
    | succ k ih =>
      intro i hi
      refine q_iload_n F 3 dX8_count_4 rfl rfl ?_
      refine q_bipush F (nI 8) dX8_count_5 (by decide) ?_
      refine n_ge F 35 dX8_count_7 (by decide) (by omega) (by omega) (fun c_7 => ?_) (fun c_7 => ?_)
      · omega
      · obtain ⟨r1, r2⟩ := hR i (by omega)
        obtain ⟨hr4, hr5⟩ := hI.2.2.2.2.2.2.1 i (by omega)
        refine q_iload_n F 2 dX8_count_10 rfl rfl ?_
        refine q_aload_n F 0 dX8_count_11 rfl rfl ?_
        refine gX8_20 F dX8_count_12 sh_202 rfl ?_
        refine q_iload_n F 3 dX8_count_15 rfl rfl ?_
        refine q_iald F dX8_count_16 sh_206 (by omega) (by decide) ?_
        refine q_top (.int ((if T_rl T i = 0 then -1000000 else nI (T_rl T i - 1)))) (congrArg Value.int (r1)) ?_
        refine q_ldc F dX8_count_17 wX8_19 ?_
        refine q_icmp_ne F 26 dX8_count_19 (by decide) (fun c_19 => ?_) (fun c_19 => ?_)
        · refine q_iconst F (nI 1) dX8_count_26 (by decide) ?_
          refine n_iadd F dX8_count_27 ?_
          refine q_istore_n2 F dX8_count_28 (by decide) rfl ?_
          refine q_iinc3 F _ dX8_count_29 (nI_inc _) (by decide) rfl ?_
          refine q_goto F 4 dX8_count_32 (by decide) ?_
          have c0 : ¬ T_rl T i = 0 := fun z => c_19 ((ln_none hr4).mpr z)
          have hh := ih (i + 1) (by omega)
          rw [sThere, if_neg c0] at hh
          exact hh
        · refine q_iconst F (nI 0) dX8_count_22 (by decide) ?_
          refine q_goto F 27 dX8_count_23 (by decide) ?_
          refine n_iadd F dX8_count_27 ?_
          refine q_istore_n2 F dX8_count_28 (by decide) rfl ?_
          refine q_iinc3 F _ dX8_count_29 (nI_inc _) (by decide) rfl ?_
          refine q_goto F 4 dX8_count_32 (by decide) ?_
          have c0 : T_rl T i = 0 := (ln_none hr4).mp c_19
          have hh := ih (i + 1) (by omega)
          rw [sThere, if_pos c0] at hh
          exact hh
  refine q_iconst F (nI 0) dX8_count_0 (by decide) ?_
  refine q_istore_n2 F dX8_count_1 (by decide) rfl ?_
  refine q_iconst F (nI 0) dX8_count_2 (by decide) ?_
  refine q_istore_n3 F dX8_count_3 (by decide) rfl ?_
  exact L 8 0 (by omega)
