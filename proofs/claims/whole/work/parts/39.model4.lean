theorem sz_m1 : ∀ m, m < 41 → (nI m - nI 1).toInt64.toInt = (m : Int) - 1 := by decide +kernel
set_option maxHeartbeats 4000000 in
set_option maxRecDepth 100000 in
theorem m_set {G : vm_G} {σ : vm_M} {T : vm_T} (hM : MInv σ T) (hI : SInv T) (x y v : Int32) : vm_RI G 2 mX8_set [.ref 202, .int x, .int y, .int v] σ (mPost σ (aSet T x y v)) := by
  refine vm_int (y := mX8_set) (by decide) (Nat.le_of_ble_eq_true rfl) (ls0 := [some (.ref 202), some (.int x), some (.int y), some (.int v)]) rfl rfl (fun C F K => ?_)
  have F : vm_F G C cX8_set RX8 4 _ := F
  show vm_Ex G C 4 0 [some (.ref 202), some (.int x), some (.int y), some (.int v)] [] _
  obtain ⟨hR, hTp, ⟨hHp, hS⟩, hPs, hIm, hTr, hFl, hFn⟩ := id hM
  refine q_iload_n F 1 dX8_set_0 rfl rfl ?_
  refine iX8_46 F dX8_set_1 (m_isRow _) (by decide) rfl rfl (Nat.le_of_ble_eq_true rfl) (fun v_1 σ_1 h_1 => ?_)
  obtain ⟨rfl, rfl⟩ := h_1
  refine b_ne F 10 dX8_set_4 (by decide) (fun c_4 => ?_) (fun c_4 => ?_)
  · obtain ⟨j, hj, rfl⟩ := wi_of c_4
    have hx := xN_nI (show j < 2 ^ 31 by omega)
    obtain ⟨r1, r2⟩ := hR j hj
    obtain ⟨hr4, hr5⟩ := hI.2.2.2.2.2.2.1 j hj
    refine q_aload_n F 0 dX8_set_10 rfl rfl ?_
    refine gX8_20 F dX8_set_11 sh_202 rfl ?_
    refine q_iload_n F 1 dX8_set_14 rfl rfl ?_
    refine q_iald F dX8_set_15 sh_206 (by omega) (by decide) ?_
    refine q_top (.int ((if T_rl T j = 0 then -1000000 else nI (T_rl T j - 1)))) (congrArg Value.int (r1)) ?_
    refine q_ldc F dX8_set_16 wX8_19 ?_
    refine q_icmp_ne F 27 dX8_set_18 (by decide) (fun c_18 => ?_) (fun c_18 => ?_)
    · have c0 : ¬ T_rl T j = 0 := fun z => c_18 ((ln_none hr4).mpr z)
      have hr6 := hr5 c0
      obtain ⟨r3, r4⟩ := r2 c0
      have r5 := r1
      rw [if_neg c0] at r5
      refine q_iload_n F 2 dX8_set_27 rfl rfl ?_
      refine q_i2l F dX8_set_28 ?_
      refine q_lconst F (lN 0) dX8_set_29 (by decide) ?_
      refine q_aload_n F 0 dX8_set_30 rfl rfl ?_
      refine gX8_23 F dX8_set_31 sh_202 rfl ?_
      refine q_iload_n F 1 dX8_set_34 rfl rfl ?_
      refine q_iald F dX8_set_35 sh_207 (by omega) (by decide) ?_
      refine q_top (.int (nI (T_rn T j))) (congrArg Value.int (r3)) ?_
      refine q_iconst F (nI 1) dX8_set_36 (by decide) ?_
      refine q_isub F dX8_set_37 ?_
      refine q_i2l F dX8_set_38 ?_
      refine iX8_42 F dX8_set_39 (m_in _ _ _) (by decide) rfl rfl (Nat.le_of_ble_eq_true rfl) (fun v_39 σ_39 h_39 => ?_)
      obtain ⟨rfl, rfl⟩ := h_39
      refine q_top (.int (bI (wi y (T_rn T j)))) (congrArg Value.int (by rw [in_wi (n := T_rn T j) (by decide) (sz_m1 _ (by omega))])) ?_
      refine b_ne F 51 dX8_set_42 (by decide) (fun c_42 => ?_) (fun c_42 => ?_)
      · obtain ⟨p, hp, rfl⟩ := wi_of c_42
        have hxp := xN_nI (show p < 2 ^ 31 by omega)
        refine q_aload_n F 0 dX8_set_51 rfl rfl ?_
        refine gX8_26 F dX8_set_52 sh_202 rfl ?_
        refine q_bipush F (nI 40) dX8_set_55 (by decide) ?_
        refine q_iload_n F 1 dX8_set_57 rfl rfl ?_
        refine n_imul F dX8_set_58 ?_
        refine q_iload_n F 2 dX8_set_59 rfl rfl ?_
        refine n_iadd F dX8_set_60 ?_
        refine q_aload_n F 0 dX8_set_61 rfl rfl ?_
        refine gX8_20 F dX8_set_62 sh_202 rfl ?_
        refine q_iload_n F 1 dX8_set_65 rfl rfl ?_
        refine q_iald F dX8_set_66 sh_206 (by omega) (by decide) ?_
        refine q_top (.int (nI (T_rl T j - 1))) (congrArg Value.int (r5)) ?_
        refine z_ne F 75 dX8_set_67 (by decide) (by omega) (fun c_67 => ?_) (fun c_67 => ?_)
        · refine q_aload_n F 0 dX8_set_75 rfl rfl ?_
          refine gX8_20 F dX8_set_76 sh_202 rfl ?_
          refine q_iload_n F 1 dX8_set_79 rfl rfl ?_
          refine q_iald F dX8_set_80 sh_206 (by omega) (by decide) ?_
          refine q_top (.int (nI (T_rl T j - 1))) (congrArg Value.int (r5)) ?_
          refine q_iconst F (nI 1) dX8_set_81 (by decide) ?_
          refine n_ne F 90 dX8_set_82 (by decide) (by omega) (by omega) (fun c_82 => ?_) (fun c_82 => ?_)
          · refine q_iload_n F 3 dX8_set_90 rfl rfl ?_
            refine q_iast F dX8_set_91 sh_208 (by omega) (by decide) ?_
            refine q_aload_n F 0 dX8_set_92 rfl rfl ?_
            refine q_aload_n F 0 dX8_set_93 rfl rfl ?_
            refine gX8_26 F dX8_set_94 sh_202 rfl ?_
            refine q_bipush F (nI 40) dX8_set_97 (by decide) ?_
            refine q_iload_n F 1 dX8_set_99 rfl rfl ?_
            refine n_imul F dX8_set_100 ?_
            refine q_iload_n F 2 dX8_set_101 rfl rfl ?_
            refine n_iadd F dX8_set_102 ?_
            refine q_iald F dX8_set_103 sh_208 (by omega) (by decide) ?_
            refine q_top (.int (v)) (congrArg Value.int (by simp [vm_upd, upd])) ?_
            refine iX8_57 F dX8_set_104 (m_give _) (by decide) sh_202 rfl rfl (Nat.le_of_ble_eq_true rfl) (fun v_104 σ_104 h_104 => ?_)
            obtain ⟨hv, rfl⟩ := h_104
            obtain rfl := hv.symm
            refine K _ _ _ _ ?_ dX8_set_107 rfl
            have hs : sNar (T_rl T j) v = v := by
              unfold sNar
              rw [if_neg (by omega), if_neg (by omega)]
            have e : aSet T (nI j) (nI p) v = (v, sT_rows T (T_rl T) (T_rn T) (vm_u (T_ri T) j (vm_u (T_ri T j) p (v))) (nI 0)) := by
              unfold aSet
              rw [hx, hxp, if_neg (by simp [c_4]), if_neg c0, if_neg (by simp [c_42]), hs]
            rw [e]
            refine ⟨rfl, MInv.fnd (T := sT_rows T (T_rl T) (T_rn T) (vm_u (T_ri T) j (vm_u (T_ri T j) p (v))) (T_fnd T)) (hM.rows (fun o a b c => vm_upd_n _ _ _ c) (fun q hq => ?_)) (nI 0), fun o ho => by rw [vm_upd_n _ _ _ (by omega), vm_upd_n _ _ _ (by omega)]⟩
            obtain ⟨q1, q2⟩ := hR q hq
            obtain ⟨-, hq5⟩ := hI.2.2.2.2.2.2.1 q hq
            rw [vm_upd_n _ _ _ (show (206 : Nat) ≠ 208 by omega), vm_upd_n _ _ _ (show (207 : Nat) ≠ 208 by omega)]
            refine ⟨q1, fun z => ⟨(q2 z).1, fun k hk => ?_⟩⟩
            have hq6 := hq5 z
            by_cases eq : q = j
            · subst eq
              rw [vm_u_s]
              by_cases ek : k = p
              · subst ek
                rw [vm_u_s]
                simp [vm_upd, upd]
              · rw [vm_u_n ek, vm_upd_k _ _ _ (by omega)]
                exact (q2 z).2 k hk
            · rw [vm_u_n eq, vm_upd_k _ _ _ (by omega)]
              exact (q2 z).2 k hk
          · refine q_iload_n F 3 dX8_set_85 rfl rfl ?_
            refine q_i2s F dX8_set_86 ?_
            refine q_goto F 91 dX8_set_87 (by decide) ?_
            refine q_iast F dX8_set_91 sh_208 (by omega) (by decide) ?_
            refine q_aload_n F 0 dX8_set_92 rfl rfl ?_
            refine q_aload_n F 0 dX8_set_93 rfl rfl ?_
            refine gX8_26 F dX8_set_94 sh_202 rfl ?_
            refine q_bipush F (nI 40) dX8_set_97 (by decide) ?_
            refine q_iload_n F 1 dX8_set_99 rfl rfl ?_
            refine n_imul F dX8_set_100 ?_
            refine q_iload_n F 2 dX8_set_101 rfl rfl ?_
            refine n_iadd F dX8_set_102 ?_
            refine q_iald F dX8_set_103 sh_208 (by omega) (by decide) ?_
            refine q_top (.int (v.toInt16.toInt32)) (congrArg Value.int (by simp [vm_upd, upd])) ?_
            refine iX8_57 F dX8_set_104 (m_give _) (by decide) sh_202 rfl rfl (Nat.le_of_ble_eq_true rfl) (fun v_104 σ_104 h_104 => ?_)
            obtain ⟨hv, rfl⟩ := h_104
            obtain rfl := hv.symm
            refine K _ _ _ _ ?_ dX8_set_107 rfl
            have hs : sNar (T_rl T j) v = v.toInt16.toInt32 := by
              unfold sNar
              rw [if_neg (by omega), if_pos (by omega)]
            have e : aSet T (nI j) (nI p) v = (v.toInt16.toInt32, sT_rows T (T_rl T) (T_rn T) (vm_u (T_ri T) j (vm_u (T_ri T j) p (v.toInt16.toInt32))) (nI 0)) := by
              unfold aSet
              rw [hx, hxp, if_neg (by simp [c_4]), if_neg c0, if_neg (by simp [c_42]), hs]
            rw [e]
            refine ⟨rfl, MInv.fnd (T := sT_rows T (T_rl T) (T_rn T) (vm_u (T_ri T) j (vm_u (T_ri T j) p (v.toInt16.toInt32))) (T_fnd T)) (hM.rows (fun o a b c => vm_upd_n _ _ _ c) (fun q hq => ?_)) (nI 0), fun o ho => by rw [vm_upd_n _ _ _ (by omega), vm_upd_n _ _ _ (by omega)]⟩
            obtain ⟨q1, q2⟩ := hR q hq
            obtain ⟨-, hq5⟩ := hI.2.2.2.2.2.2.1 q hq
            rw [vm_upd_n _ _ _ (show (206 : Nat) ≠ 208 by omega), vm_upd_n _ _ _ (show (207 : Nat) ≠ 208 by omega)]
            refine ⟨q1, fun z => ⟨(q2 z).1, fun k hk => ?_⟩⟩
            have hq6 := hq5 z
            by_cases eq : q = j
            · subst eq
              rw [vm_u_s]
              by_cases ek : k = p
              · subst ek
                rw [vm_u_s]
                simp [vm_upd, upd]
              · rw [vm_u_n ek, vm_upd_k _ _ _ (by omega)]
                exact (q2 z).2 k hk
            · rw [vm_u_n eq, vm_upd_k _ _ _ (by omega)]
              exact (q2 z).2 k hk
        · refine q_iload_n F 3 dX8_set_70 rfl rfl ?_
          refine q_i2b F dX8_set_71 ?_
          refine q_goto F 91 dX8_set_72 (by decide) ?_
          refine q_iast F dX8_set_91 sh_208 (by omega) (by decide) ?_
          refine q_aload_n F 0 dX8_set_92 rfl rfl ?_
          refine q_aload_n F 0 dX8_set_93 rfl rfl ?_
          refine gX8_26 F dX8_set_94 sh_202 rfl ?_
          refine q_bipush F (nI 40) dX8_set_97 (by decide) ?_
          refine q_iload_n F 1 dX8_set_99 rfl rfl ?_
          refine n_imul F dX8_set_100 ?_
          refine q_iload_n F 2 dX8_set_101 rfl rfl ?_
          refine n_iadd F dX8_set_102 ?_
          refine q_iald F dX8_set_103 sh_208 (by omega) (by decide) ?_
          refine q_top (.int (v.toInt8.toInt32)) (congrArg Value.int (by simp [vm_upd, upd])) ?_
          refine iX8_57 F dX8_set_104 (m_give _) (by decide) sh_202 rfl rfl (Nat.le_of_ble_eq_true rfl) (fun v_104 σ_104 h_104 => ?_)
          obtain ⟨hv, rfl⟩ := h_104
          obtain rfl := hv.symm
          refine K _ _ _ _ ?_ dX8_set_107 rfl
          have hs : sNar (T_rl T j) v = v.toInt8.toInt32 := by
            unfold sNar
            rw [if_pos (by omega)]
          have e : aSet T (nI j) (nI p) v = (v.toInt8.toInt32, sT_rows T (T_rl T) (T_rn T) (vm_u (T_ri T) j (vm_u (T_ri T j) p (v.toInt8.toInt32))) (nI 0)) := by
            unfold aSet
            rw [hx, hxp, if_neg (by simp [c_4]), if_neg c0, if_neg (by simp [c_42]), hs]
          rw [e]
          refine ⟨rfl, MInv.fnd (T := sT_rows T (T_rl T) (T_rn T) (vm_u (T_ri T) j (vm_u (T_ri T j) p (v.toInt8.toInt32))) (T_fnd T)) (hM.rows (fun o a b c => vm_upd_n _ _ _ c) (fun q hq => ?_)) (nI 0), fun o ho => by rw [vm_upd_n _ _ _ (by omega), vm_upd_n _ _ _ (by omega)]⟩
          obtain ⟨q1, q2⟩ := hR q hq
          obtain ⟨-, hq5⟩ := hI.2.2.2.2.2.2.1 q hq
          rw [vm_upd_n _ _ _ (show (206 : Nat) ≠ 208 by omega), vm_upd_n _ _ _ (show (207 : Nat) ≠ 208 by omega)]
          refine ⟨q1, fun z => ⟨(q2 z).1, fun k hk => ?_⟩⟩
          have hq6 := hq5 z
          by_cases eq : q = j
          · subst eq
            rw [vm_u_s]
            by_cases ek : k = p
            · subst ek
              rw [vm_u_s]
              simp [vm_upd, upd]
            · rw [vm_u_n ek, vm_upd_k _ _ _ (by omega)]
              exact (q2 z).2 k hk
          · rw [vm_u_n eq, vm_upd_k _ _ _ (by omega)]
            exact (q2 z).2 k hk
      · refine q_aload_n F 0 dX8_set_45 rfl rfl ?_
        refine q_iconst F (nI 2) dX8_set_46 (by decide) ?_
        refine iX8_53 F dX8_set_47 (m_find _) (by decide) sh_202 rfl rfl (Nat.le_of_ble_eq_true rfl) (fun v_47 σ_47 h_47 => ?_)
        obtain ⟨rfl, rfl⟩ := h_47
        refine K _ _ _ _ ?_ dX8_set_50 rfl
        have e : aSet T (nI j) y v = sFound T 2 := by
          simp [aSet, hx, c_4, c0, c_42]
        rw [e]
        exact ⟨rfl, hM.fnd _, fun o ho => vm_upd_n _ _ _ (by omega)⟩
    · have c0 : T_rl T j = 0 := (ln_none hr4).mp c_18
      refine q_aload_n F 0 dX8_set_21 rfl rfl ?_
      refine q_iconst F (nI 1) dX8_set_22 (by decide) ?_
      refine iX8_53 F dX8_set_23 (m_find _) (by decide) sh_202 rfl rfl (Nat.le_of_ble_eq_true rfl) (fun v_23 σ_23 h_23 => ?_)
      obtain ⟨rfl, rfl⟩ := h_23
      refine K _ _ _ _ ?_ dX8_set_26 rfl
      have e : aSet T (nI j) y v = sFound T 1 := by
        simp [aSet, hx, c_4, c0]
      rw [e]
      exact ⟨rfl, hM.fnd _, fun o ho => vm_upd_n _ _ _ (by omega)⟩
  · refine q_ldc F dX8_set_7 wX8_52 ?_
    refine K _ _ _ _ ?_ dX8_set_9 rfl
    have e : aSet T x y v = (sBAD, T) := by
      simp [aSet, c_4]
    rw [e]
    exact ⟨rfl, hM, fun _ _ => rfl⟩
