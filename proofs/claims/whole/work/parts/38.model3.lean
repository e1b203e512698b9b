set_option maxHeartbeats 4000000 in
set_option maxRecDepth 100000 in
theorem m_row {G : vm_G} {σ : vm_M} {T : vm_T} (hM : MInv σ T) (hI : SInv T) (r l n : Int32) : vm_RI G 2 mX8_row [.ref 202, .int r, .int l, .int n] σ (mPost σ (aRow T r l n)) := by
  refine vm_int (y := mX8_row) (by decide) (Nat.le_of_ble_eq_true rfl) (ls0 := [some (.ref 202), some (.int r), some (.int l), some (.int n), none]) rfl rfl (fun C F K => ?_)
  have F : vm_F G C cX8_row RX8 5 _ := F
  show vm_Ex G C 5 0 [some (.ref 202), some (.int r), some (.int l), some (.int n), none] [] _
  obtain ⟨hR, hTp, ⟨hHp, hS⟩, hPs, hIm, hTr, hFl, hFn⟩ := id hM
  refine q_iload_n F 1 dX8_row_0 rfl rfl ?_
  refine iX8_46 F dX8_row_1 (m_isRow _) (by decide) rfl rfl (Nat.le_of_ble_eq_true rfl) (fun v_1 σ_1 h_1 => ?_)
  obtain ⟨rfl, rfl⟩ := h_1
  refine b_eq F 25 dX8_row_4 (by decide) (fun c_4 => ?_) (fun c_4 => ?_)
  · refine q_ldc F dX8_row_25 wX8_52 ?_
    refine K _ _ _ _ ?_ dX8_row_27 rfl
    have e : aRow T r l n = (sBAD, T) := by
      simp [aRow, c_4]
    rw [e]
    exact ⟨rfl, hM, fun _ _ => rfl⟩
  · refine q_iload_n F 2 dX8_row_7 rfl rfl ?_
    refine q_i2l F dX8_row_8 ?_
    refine q_lconst F (lN 0) dX8_row_9 (by decide) ?_
    refine q_ldc2 F dX8_row_10 wX8_50 ?_
    refine iX8_42 F dX8_row_13 (m_in _ _ _) (by decide) rfl rfl (Nat.le_of_ble_eq_true rfl) (fun v_13 σ_13 h_13 => ?_)
    obtain ⟨rfl, rfl⟩ := h_13
    refine q_top (.int (bI (wi l 3))) (congrArg Value.int (by rw [in_wi (n := 3) (by decide) (by decide)])) ?_
    refine b_eq F 25 dX8_row_16 (by decide) (fun c_16 => ?_) (fun c_16 => ?_)
    · refine q_ldc F dX8_row_25 wX8_52 ?_
      refine K _ _ _ _ ?_ dX8_row_27 rfl
      have e : aRow T r l n = (sBAD, T) := by
        simp [aRow, c_16]
      rw [e]
      exact ⟨rfl, hM, fun _ _ => rfl⟩
    · refine q_iload_n F 3 dX8_row_19 rfl rfl ?_
      refine q_bipush F (nI 40) dX8_row_20 (by decide) ?_
      refine q_icmp_le F 28 dX8_row_22 (by decide) (fun c_22 => ?_) (fun c_22 => ?_)
      · refine q_iload_n F 3 dX8_row_28 rfl rfl ?_
        refine q_if_ge F 38 dX8_row_29 (by decide) (fun c_29 => ?_) (fun c_29 => ?_)
        · have hn0 := (i_ge0 n).mp c_29
          obtain ⟨j, hj, rfl⟩ := wi_of c_4
          obtain ⟨q, hq, rfl⟩ := wi_of c_16
          obtain ⟨m, hm, rfl⟩ := i_of hn0
          have hxj := xN_nI (show j < 2 ^ 31 by omega)
          have hxq := xN_nI (show q < 2 ^ 31 by omega)
          have hxm := xN_nI hm
          have hm40 : m ≤ 40 := by have := (i_le (by decide) _).mp c_22; rw [nI_toInt hm] at this; omega
          refine q_aload_n F 0 dX8_row_38 rfl rfl ?_
          refine gX8_20 F dX8_row_39 sh_202 rfl ?_
          refine q_iload_n F 1 dX8_row_42 rfl rfl ?_
          refine q_iload_n F 2 dX8_row_43 rfl rfl ?_
          refine q_iast F dX8_row_44 sh_206 (by omega) (by decide) ?_
          refine q_aload_n F 0 dX8_row_45 rfl rfl ?_
          refine gX8_23 F dX8_row_46 sh_202 rfl ?_
          refine q_iload_n F 1 dX8_row_49 rfl rfl ?_
          refine q_iload_n F 3 dX8_row_50 rfl rfl ?_
          refine q_iast F dX8_row_51 sh_207 (by omega) (by decide) ?_
          refine q_iconst F (nI 0) dX8_row_52 (by decide) ?_
          refine q_istore4 F dX8_row_53 (by decide) rfl ?_
          have L : ∀ k i, ∀ σ2 : vm_M, (∀ o, o ≠ 208 → σ2 o = (vm_upd (vm_upd σ_13 206 j (nI q)) 207 j (nI m)) o) → (∀ k, (k < 40 * j ∨ 40 * j + m ≤ k) → σ2 208 k = σ_13 208 k) → (∀ k, k < i → σ2 208 (40 * j + k) = nI 0) → i + k = m → vm_Ex G C 5 55 [some (.ref 202), some (.int (nI j)), some (.int (nI q)), some (.int (nI m)), some (.int (nI i))] [] σ2 := by
            intro k
            induction k with
            | zero =>
              intro i σ2 g1 g2 g3 hi
              refine q_iload F 4 dX8_row_55 rfl ?_
              refine q_iload_n F 3 dX8_row_57 rfl rfl ?_
              refine n_ge F 80 dX8_row_58 (by decide) (by omega) (by omega) (fun c_58 => ?_) (fun c_58 => ?_)
              · refine q_aload_n F 0 dX8_row_80 rfl rfl ?_
                refine q_iload_n F 3 dX8_row_81 rfl rfl ?_
                refine iX8_57 F dX8_row_82 (m_give _) (by decide) sh_202 rfl rfl (Nat.le_of_ble_eq_true rfl) (fun v_82 σ_82 h_82 => ?_)
                obtain ⟨rfl, rfl⟩ := h_82
                refine K _ _ _ _ ?_ dX8_row_85 rfl
                have ei : i = m := by omega
                subst ei
                have e : aRow T (nI j) (nI q) (nI i) = (nI i, sT_rows T (vm_u (T_rl T) j (q + 1)) (vm_u (T_rn T) j i) (vm_u (T_ri T) j (fun _ => nI 0)) (nI 0)) := by
                  unfold aRow
                  rw [hxj, hxq, hxm, if_neg (by simp [c_4, c_16]; rw [nI_toInt (by omega)]; omega), if_neg (by rw [nI_toInt (by omega)]; omega)]
                rw [e]
                refine ⟨rfl, MInv.fnd (T := sT_rows T (vm_u (T_rl T) j (q + 1)) (vm_u (T_rn T) j i) (vm_u (T_ri T) j (fun _ => nI 0)) (T_fnd T)) (hM.rows (fun o a b c => by rw [g1 o c, vm_upd_n _ _ _ b, vm_upd_n _ _ _ a]) (fun r hr => ?_)) (nI 0), fun o ho => by rw [vm_upd_n _ _ _ (by omega), g1 o (by omega), vm_upd_n _ _ _ (by omega), vm_upd_n _ _ _ (by omega)]⟩
                rw [g1 206 (by omega), g1 207 (by omega), vm_upd_n _ _ _ (show (206 : Nat) ≠ 207 by omega)]
                by_cases eq : r = j
                · rw [eq, vm_u_s, vm_u_s, vm_u_s]
                  exact ⟨by simp [vm_upd, upd], fun _ => ⟨by simp [vm_upd, upd], fun k hk => g3 k hk⟩⟩
                · rw [vm_u_n eq, vm_u_n eq, vm_u_n eq, vm_upd_k _ _ _ eq, vm_upd_k _ _ _ eq, vm_upd_n _ _ _ (show (207 : Nat) ≠ 206 by omega)]
                  obtain ⟨r1, r2⟩ := hR r hr
                  obtain ⟨-, hr5⟩ := hI.2.2.2.2.2.2.1 r hr
                  exact ⟨r1, fun z => ⟨(r2 z).1, fun k hk => by rw [g2 _ (by have := hr5 z; omega)]; exact (r2 z).2 k hk⟩⟩
              · omega
            | succ k ih =>
              intro i σ2 g1 g2 g3 hi
              refine q_iload F 4 dX8_row_55 rfl ?_
              refine q_iload_n F 3 dX8_row_57 rfl rfl ?_
              refine n_ge F 80 dX8_row_58 (by decide) (by omega) (by omega) (fun c_58 => ?_) (fun c_58 => ?_)
              · omega
              · refine q_aload_n F 0 dX8_row_61 rfl rfl ?_
                refine gX8_26 F dX8_row_62 sh_202 rfl ?_
                refine q_bipush F (nI 40) dX8_row_65 (by decide) ?_
                refine q_iload_n F 1 dX8_row_67 rfl rfl ?_
                refine n_imul F dX8_row_68 ?_
                refine q_iload F 4 dX8_row_69 rfl ?_
                refine n_iadd F dX8_row_71 ?_
                refine q_iconst F (nI 0) dX8_row_72 (by decide) ?_
                refine q_iast F dX8_row_73 sh_208 (by omega) (by decide) ?_
                refine q_iinc4 F _ dX8_row_74 (nI_inc _) (by decide) rfl ?_
                refine q_goto F 55 dX8_row_77 (by decide) ?_
                refine ih (i + 1) _ ?_ ?_ ?_ (by omega)
                · intro o ho
                  rw [vm_upd_n _ _ _ ho]
                  exact g1 o ho
                · intro k hk
                  rw [vm_upd_k _ _ _ (by omega)]
                  exact g2 k hk
                · intro k hk
                  by_cases ek : k = i
                  · rw [ek]; simp [vm_upd, upd]
                  · rw [vm_upd_k _ _ _ (by omega)]
                    exact g3 k (by omega)
          exact L m 0 _ (fun _ _ => rfl) (fun k _ => by rw [vm_upd_n _ _ _ (by omega), vm_upd_n _ _ _ (by omega)]) (fun k hk => absurd hk (Nat.not_lt_zero _)) (by omega)
        · refine q_aload_n F 0 dX8_row_32 rfl rfl ?_
          refine q_iconst F (nI 4) dX8_row_33 (by decide) ?_
          refine iX8_53 F dX8_row_34 (m_find _) (by decide) sh_202 rfl rfl (Nat.le_of_ble_eq_true rfl) (fun v_34 σ_34 h_34 => ?_)
          obtain ⟨rfl, rfl⟩ := h_34
          refine K _ _ _ _ ?_ dX8_row_37 rfl
          have e : aRow T r l n = sFound T 4 := by
            unfold aRow
            rw [i_ge0] at c_29
            rw [i_le (by decide)] at c_22
            rw [if_neg (by simp [c_4, c_16]; omega), if_pos (by omega)]
          rw [e]
          exact ⟨rfl, hM.fnd _, fun o ho => vm_upd_n _ _ _ (by omega)⟩
      · refine q_ldc F dX8_row_25 wX8_52 ?_
        refine K _ _ _ _ ?_ dX8_row_27 rfl
        have e : aRow T r l n = (sBAD, T) := by
          unfold aRow
          rw [if_pos (by rw [i_le (by decide)] at c_22; simp; right; omega)]
        rw [e]
        exact ⟨rfl, hM, fun _ _ => rfl⟩
