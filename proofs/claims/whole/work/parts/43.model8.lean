theorem MInv.now {σ σ' : vm_M} {T : vm_T} (h : MInv σ T) (hI : SInv T) {v : vm_V} {pl : Nat} {pv : Nat → vm_V} (h1 : mSec σ' 0 v) (h2 : mPast σ' pl pv) (f1 : ∀ o, o ≠ 202 → o ≠ 203 → o ≠ 204 → σ' o = σ o) (f2 : ∀ k, k ≠ 2 → σ' 202 k = σ 202 k) (f3 : ∀ k, (k = 0 ∨ 31 ≤ k) → k < 93 → σ' 203 k = σ 203 k) : MInv σ' (sT_now T v pl pv) := by
  obtain ⟨g1, g2, ⟨g3, -⟩, -, g5, g6, g7, g8⟩ := h
  refine ⟨?_, ?_, ⟨(f3 _ (by omega) (by omega)).trans g3, h1⟩, h2, ?_, ?_, (f2 _ (by omega)).trans g7, (f2 _ (by omega)).trans g8⟩
  · unfold mRows; rw [f1 206 (by omega) (by omega) (by omega), f1 207 (by omega) (by omega) (by omega), f1 208 (by omega) (by omega) (by omega)]; exact g1
  · unfold mTape; rw [f2 4 (by omega), f1 205 (by omega) (by omega) (by omega)]; exact g2
  · intro k hk
    obtain ⟨a1, a2⟩ := g5 k hk
    exact ⟨(f3 _ (by omega) (by omega)).trans a1, fun z => (a2 z).mv (hI.2.2.2.2.2.1 k hk z).1.1.1 _ (fun j _ hj => f3 _ (by omega) (by omega))⟩
  · unfold mTr; rw [f2 11 (by omega), f1 209 (by omega) (by omega) (by omega)]; exact g6
/-- the same of the pasts alone -/
def mFrP (σ σ' : vm_M) : Prop := (∀ o, o ≠ 202 → o ≠ 204 → σ' o = σ o) ∧ ∀ k, k ≠ 2 → σ' 202 k = σ 202 k
set_option maxHeartbeats 4000000 in
set_option maxRecDepth 100000 in
theorem m_keepPast {G : vm_G} {σ : vm_M} {v : vm_V} {pl : Nat} {pv : Nat → vm_V} (hM2 : mMov σ 203 (0 + 5) v) (hn : V_n v ≤ 6) (hPs : mPast σ pl pv) (hpl : pl ≤ 24) (hpn : ∀ i, i < pl → V_n (pv i) ≤ 6) : vm_RV G 0 mX8_keepPast [.ref 202] σ (fun σ' => mPast σ' (sPush v (pl, pv)).1 (sPush v (pl, pv)).2 ∧ mFrP σ σ') := by
  refine vm_void (y := mX8_keepPast) (by decide) (Nat.le_of_ble_eq_true rfl) (ls0 := [some (.ref 202), none]) rfl rfl (fun C F K => ?_)
  have F : vm_F G C cX8_keepPast RX8 2 _ := F
  show vm_Ex G C 2 0 [some (.ref 202), none] [] _
  have J39 : ∀ (σ2 : vm_M) (x : Option Value), (∀ j, j < 336 → σ2 204 j = (if pl = 24 ∧ j < 322 then σ 204 (j + 14) else σ 204 j)) → (∀ o, o ≠ 204 → σ2 o = σ o) → vm_Ex G C 2 39 [some (.ref 202), x] [] σ2 := by
    intro σ2 x hs f1
    have p2 : σ2 202 2 = nI pl := by rw [f1 202 (by omega)]; exact hPs.1
    obtain ⟨q0, hq0⟩ : ∃ q0, q0 = (if pl = 24 then 23 else pl) := ⟨_, rfl⟩
    have hq23 : q0 ≤ 23 := by rw [hq0]; split <;> omega
    have LB : ∀ k i, i + k = 14 → ∀ σ3 : vm_M, (∀ j, j < 336 → ¬ (14 * q0 ≤ j ∧ j < 14 * q0 + i) → σ3 204 j = σ2 204 j) → (∀ j, j < i → σ3 204 (14 * q0 + j) = σ 203 (5 + j)) → (∀ o, o ≠ 202 → o ≠ 204 → σ3 o = σ o) → (∀ k, k ≠ 2 → σ3 202 k = σ 202 k) → σ3 202 2 = nI q0 → vm_Ex G C 2 64 [some (.ref 202), some (.int (nI i))] [] σ3 := by
      intro k
      induction k with
      | zero =>
        intro i hi σ3 e1 e2 e3 e4 e5
        refine q_iload_n F 1 dX8_keepPast_64 rfl rfl ?_
        refine q_bipush F (nI 14) dX8_keepPast_65 (by decide) ?_
        refine n_ge F 98 dX8_keepPast_67 (by decide) (by omega) (by omega) (fun c_67 => ?_) (fun c_67 => ?_)
        · refine q_aload_n F 0 dX8_keepPast_98 rfl rfl ?_
          refine q_dup F dX8_keepPast_99 rfl ?_
          refine gX8_142 F dX8_keepPast_100 sh_202 rfl ?_
          refine q_top (.int (nI q0)) (congrArg Value.int (e5)) ?_
          refine q_iconst F (nI 1) dX8_keepPast_103 (by decide) ?_
          refine n_iadd F dX8_keepPast_104 ?_
          refine pX8_142 F dX8_keepPast_105 sh_202 rfl ⟨rfl, rfl⟩ ?_
          refine K _ _ _ ?_ dX8_keepPast_108
          have e : i = 14 := by omega
          subst e
          have v2 : vm_upd σ3 202 2 (nI (q0 + 1)) 204 = σ3 204 := vm_upd_n _ _ _ (by omega)
          refine ⟨⟨?_, ?_⟩, fun o a b => by rw [vm_upd_n _ _ _ a]; exact e3 o a b, fun k hk => by rw [vm_upd_k _ _ _ hk]; exact e4 k hk⟩
          · unfold sPush
            split
            · show vm_upd σ3 202 2 (nI (q0 + 1)) 202 2 = nI (pl + 1)
              rw [hq0, if_neg (by omega)]; simp [vm_upd, upd]
            · show vm_upd σ3 202 2 (nI (q0 + 1)) 202 2 = nI 24
              rw [hq0, if_pos (by omega)]; simp [vm_upd, upd]
          · intro j hj
            have hnew : mMov (vm_upd σ3 202 2 (nI (q0 + 1))) 204 (14 * q0) v := hM2.fr hn 204 (fun k hk => by rw [v2, e2 k hk])
            by_cases hp : pl < 24
            · have hq : q0 = pl := by rw [hq0, if_neg (by omega)]
              have e9 : sPush v (pl, pv) = (pl + 1, vm_u pv pl v) := by unfold sPush; rw [if_pos hp]
              rw [e9] at hj ⊢
              have hj : j < pl + 1 := hj
              show mMov _ 204 (14 * j) (vm_u pv pl v j)
              by_cases ej : j = pl
              · rw [ej, vm_u_s, ← hq]; exact hnew
              · rw [vm_u_n ej]
                refine (hPs.2 j (by omega)).fr (hpn j (by omega)) 204 (fun k hk => ?_)
                rw [v2, e1 _ (by omega) (by omega), hs _ (by omega), if_neg (by omega)]
            · have hp24 : pl = 24 := by omega
              have hq : q0 = 23 := by rw [hq0, if_pos hp24]
              have e9 : sPush v (pl, pv) = (24, fun i => if i < 23 then pv (i + 1) else v) := by unfold sPush; rw [if_neg hp]
              rw [e9] at hj ⊢
              have hj : j < 24 := hj
              show mMov _ 204 (14 * j) (if j < 23 then pv (j + 1) else v)
              by_cases ej : j < 23
              · rw [if_pos ej]
                refine (hPs.2 (j + 1) (by omega)).fr (hpn (j + 1) (by omega)) 204 (fun k hk => ?_)
                rw [v2, e1 _ (by omega) (by omega), hs _ (by omega), if_pos (by omega)]
                congr 1
                omega
              · rw [if_neg ej, show j = q0 by omega]; exact hnew
        · omega
      | succ k ih =>
        intro i hi σ3 e1 e2 e3 e4 e5
        refine q_iload_n F 1 dX8_keepPast_64 rfl rfl ?_
        refine q_bipush F (nI 14) dX8_keepPast_65 (by decide) ?_
        refine n_ge F 98 dX8_keepPast_67 (by decide) (by omega) (by omega) (fun c_67 => ?_) (fun c_67 => ?_)
        · omega
        · refine q_aload_n F 0 dX8_keepPast_70 rfl rfl ?_
          refine gX8_13 F dX8_keepPast_71 sh_202 rfl ?_
          refine q_bipush F (nI 14) dX8_keepPast_74 (by decide) ?_
          refine q_aload_n F 0 dX8_keepPast_76 rfl rfl ?_
          refine gX8_142 F dX8_keepPast_77 sh_202 rfl ?_
          refine q_top (.int (nI q0)) (congrArg Value.int (e5)) ?_
          refine n_imul F dX8_keepPast_80 ?_
          refine q_iload_n F 1 dX8_keepPast_81 rfl rfl ?_
          refine n_iadd F dX8_keepPast_82 ?_
          refine q_aload_n F 0 dX8_keepPast_83 rfl rfl ?_
          refine gX8_7 F dX8_keepPast_84 sh_202 rfl ?_
          refine q_iconst F (nI 5) dX8_keepPast_87 (by decide) ?_
          refine q_iload_n F 1 dX8_keepPast_88 rfl rfl ?_
          refine n_iadd F dX8_keepPast_89 ?_
          refine q_iald F dX8_keepPast_90 sh_203 (by omega) (by decide) ?_
          refine q_top (.int (σ 203 (5 + i))) (congrArg Value.int (by rw [e3 203 (by omega) (by omega)])) ?_
          refine q_iast F dX8_keepPast_91 sh_204 (by omega) (by decide) ?_
          refine q_iinc1 F _ dX8_keepPast_92 (nI_inc _) (by decide) rfl ?_
          refine q_goto F 64 dX8_keepPast_95 (by decide) ?_
          refine ih (i + 1) (by omega) _ (fun j hj hn => ?_) (fun j hj => ?_) (fun o a b => by rw [vm_upd_n _ _ _ b]; exact e3 o a b) (fun k hk => by rw [vm_upd_n _ _ _ (by omega)]; exact e4 k hk) (by rw [vm_upd_n _ _ _ (by omega)]; exact e5)
          · rw [vm_upd_k _ _ _ (by omega)]; exact e1 j hj (by omega)
          · by_cases ej : j = i
            · rw [ej]; simp [vm_upd, upd]
            · rw [vm_upd_k _ _ _ (by omega)]; exact e2 j (by omega)
    refine q_aload_n F 0 dX8_keepPast_39 rfl rfl ?_
    refine q_dup F dX8_keepPast_40 rfl ?_
    refine gX8_142 F dX8_keepPast_41 sh_202 rfl ?_
    refine q_top (.int (nI pl)) (congrArg Value.int (p2)) ?_
    refine q_aload_n F 0 dX8_keepPast_44 rfl rfl ?_
    refine gX8_142 F dX8_keepPast_45 sh_202 rfl ?_
    refine q_top (.int (nI pl)) (congrArg Value.int (p2)) ?_
    refine q_bipush F (nI 24) dX8_keepPast_48 (by decide) ?_
    refine n_ne F 57 dX8_keepPast_50 (by decide) (by omega) (by omega) (fun c_50 => ?_) (fun c_50 => ?_)
    · refine q_iconst F (nI 0) dX8_keepPast_57 (by decide) ?_
      refine n_isub F dX8_keepPast_58 (by omega) ?_
      refine q_top (.int (nI q0)) (congrArg Value.int (by rw [hq0]; simp [c_50])) ?_
      refine pX8_142 F dX8_keepPast_59 sh_202 rfl ⟨rfl, rfl⟩ ?_
      refine q_iconst F (nI 0) dX8_keepPast_62 (by decide) ?_
      refine q_istore_n1 F dX8_keepPast_63 (by decide) rfl ?_
      exact LB 14 0 (by omega) _ (fun j hj _ => by rw [vm_upd_n _ _ _ (by omega)]) (fun j hj => absurd hj (Nat.not_lt_zero _)) (fun o a b => by rw [vm_upd_n _ _ _ a]; exact f1 o b) (fun k hk => by rw [vm_upd_k _ _ _ hk, f1 202 (by omega)]) (by simp [vm_upd, upd])
    · refine q_iconst F (nI 1) dX8_keepPast_53 (by decide) ?_
      refine q_goto F 58 dX8_keepPast_54 (by decide) ?_
      refine n_isub F dX8_keepPast_58 (by omega) ?_
      refine q_top (.int (nI q0)) (congrArg Value.int (by rw [hq0]; simp [c_50])) ?_
      refine pX8_142 F dX8_keepPast_59 sh_202 rfl ⟨rfl, rfl⟩ ?_
      refine q_iconst F (nI 0) dX8_keepPast_62 (by decide) ?_
      refine q_istore_n1 F dX8_keepPast_63 (by decide) rfl ?_
      exact LB 14 0 (by omega) _ (fun j hj _ => by rw [vm_upd_n _ _ _ (by omega)]) (fun j hj => absurd hj (Nat.not_lt_zero _)) (fun o a b => by rw [vm_upd_n _ _ _ a]; exact f1 o b) (fun k hk => by rw [vm_upd_k _ _ _ hk, f1 202 (by omega)]) (by simp [vm_upd, upd])
  have LA : ∀ k i, i + k = 322 → ∀ σ2 : vm_M, (∀ j, j < 336 → σ2 204 j = (if pl = 24 ∧ j < i then σ 204 (j + 14) else σ 204 j)) → (∀ o, o ≠ 204 → σ2 o = σ o) → vm_Ex G C 2 2 [some (.ref 202), some (.int (nI i))] [] σ2 := by
    intro k
    induction k with
    | zero =>
      intro i hi σ2 hs f1
      refine q_iload_n F 1 dX8_keepPast_2 rfl rfl ?_
      refine q_sipush F (nI 322) dX8_keepPast_3 (by decide) ?_
      refine n_ge F 39 dX8_keepPast_6 (by decide) (by omega) (by omega) (fun c_6 => ?_) (fun c_6 => ?_)
      · have e : i = 322 := by omega
        subst e
        exact J39 _ _ hs f1
      · omega
    | succ k ih =>
      intro i hi σ2 hs f1
      refine q_iload_n F 1 dX8_keepPast_2 rfl rfl ?_
      refine q_sipush F (nI 322) dX8_keepPast_3 (by decide) ?_
      refine n_ge F 39 dX8_keepPast_6 (by decide) (by omega) (by omega) (fun c_6 => ?_) (fun c_6 => ?_)
      · omega
      · have p2 : σ2 202 2 = nI pl := by rw [f1 202 (by omega)]; exact hPs.1
        refine q_aload_n F 0 dX8_keepPast_9 rfl rfl ?_
        refine gX8_142 F dX8_keepPast_10 sh_202 rfl ?_
        refine q_top (.int (nI pl)) (congrArg Value.int (p2)) ?_
        refine q_bipush F (nI 24) dX8_keepPast_13 (by decide) ?_
        refine n_ne F 39 dX8_keepPast_15 (by decide) (by omega) (by omega) (fun c_15 => ?_) (fun c_15 => ?_)
        · exact J39 _ _ (fun j hj => by rw [hs j hj, if_neg (by omega), if_neg (by omega)]) f1
        · refine q_aload_n F 0 dX8_keepPast_18 rfl rfl ?_
          refine gX8_13 F dX8_keepPast_19 sh_202 rfl ?_
          refine q_iload_n F 1 dX8_keepPast_22 rfl rfl ?_
          refine q_aload_n F 0 dX8_keepPast_23 rfl rfl ?_
          refine gX8_13 F dX8_keepPast_24 sh_202 rfl ?_
          refine q_iload_n F 1 dX8_keepPast_27 rfl rfl ?_
          refine q_bipush F (nI 14) dX8_keepPast_28 (by decide) ?_
          refine n_iadd F dX8_keepPast_30 ?_
          refine q_iald F dX8_keepPast_31 sh_204 (by omega) (by decide) ?_
          refine q_top (.int (σ 204 (i + 14))) (congrArg Value.int (by rw [hs _ (by omega), if_neg (by omega)])) ?_
          refine q_iast F dX8_keepPast_32 sh_204 (by omega) (by decide) ?_
          refine q_iinc1 F _ dX8_keepPast_33 (nI_inc _) (by decide) rfl ?_
          refine q_goto F 2 dX8_keepPast_36 (by decide) ?_
          refine ih (i + 1) (by omega) _ (fun j hj => ?_) (fun o ho => by rw [vm_upd_n _ _ _ ho]; exact f1 o ho)
          by_cases e : j = i
          · rw [e, if_pos (by omega)]; simp [vm_upd, upd]
          · rw [vm_upd_k _ _ _ e, hs j hj]
            by_cases e2 : j < i
            · rw [if_pos (by omega), if_pos (by omega)]
            · rw [if_neg (by omega), if_neg (by omega)]
  refine q_iconst F (nI 0) dX8_keepPast_0 (by decide) ?_
  refine q_istore_n1 F dX8_keepPast_1 (by decide) rfl ?_
  exact LA 322 0 (by omega) _ (fun j hj => by rw [if_neg (by omega)]) (fun _ _ => rfl)
set_option maxHeartbeats 4000000 in
set_option maxRecDepth 100000 in
theorem m_halves {G : vm_G} {σ : vm_M} {T : vm_T} (hM : MInv σ T) (hI : SInv T) (n : Int32) : vm_RI G 3 mX8_halves [.ref 202, .int n] σ (mPost σ (aHalves T n)) := by
  refine vm_int (y := mX8_halves) (by decide) (Nat.le_of_ble_eq_true rfl) (ls0 := [some (.ref 202), some (.int n), none, none]) rfl rfl (fun C F K => ?_)
  have F : vm_F G C cX8_halves RX8 4 _ := F
  show vm_Ex G C 4 0 [some (.ref 202), some (.int n), none, none] [] _
  obtain ⟨hR, hTp, ⟨hHp, hS⟩, hPs, hIm, hTr, hFl, hFn⟩ := id hM
  have hX := hS.1
  have hM2 : mMov σ 203 (0 + 5) (T_nw T) := hS.2.2
  have hG := hI.1
  have hOk := hG.1
  have hn : V_n (T_nw T) ≤ 6 := hOk.1
  refine q_aload_n F 0 dX8_halves_0 rfl rfl ?_
  refine gX8_7 F dX8_halves_1 sh_202 rfl ?_
  refine q_iconst F (nI 0) dX8_halves_4 (by decide) ?_
  refine q_iald F dX8_halves_5 sh_203 (by omega) (by decide) ?_
  refine q_top (.int (bI (T_hp T))) (congrArg Value.int (hHp)) ?_
  refine b_ne F 12 dX8_halves_6 (by decide) (fun c_6 => ?_) (fun c_6 => ?_)
  · refine q_iload_n F 1 dX8_halves_12 rfl rfl ?_
    refine q_i2l F dX8_halves_13 ?_
    refine q_lconst F (lN 1) dX8_halves_14 (by decide) ?_
    refine q_ldc2 F dX8_halves_15 wX8_160 ?_
    refine iX8_42 F dX8_halves_18 (m_in _ _ _) (by decide) rfl rfl (Nat.le_of_ble_eq_true rfl) (fun v_18 σ_18 h_18 => ?_)
    obtain ⟨rfl, h_18⟩ := h_18
    obtain rfl := h_18.symm
    refine q_top (.int (bI (decide (1 ≤ n.toInt ∧ n.toInt ≤ 60)))) (congrArg Value.int (by rw [Int32.toInt_toInt64]; rfl)) ?_
    refine b_ne F 27 dX8_halves_21 (by decide) (fun c_21 => ?_) (fun c_21 => ?_)
    · have c_21 := of_decide_eq_true c_21
      obtain ⟨m, hm, rfl⟩ := i_of (show 0 ≤ n.toInt by omega)
      have hxm := xN_nI hm
      rw [nI_toInt hm] at c_21
      have hgn := hI.2.2.1
      refine q_aload_n F 0 dX8_halves_27 rfl rfl ?_
      refine gX8_7 F dX8_halves_28 sh_202 rfl ?_
      refine q_iconst F (nI 4) dX8_halves_31 (by decide) ?_
      refine q_iald F dX8_halves_32 sh_203 (by omega) (by decide) ?_
      refine q_top (.int (nI (V_gn (T_nw T)))) (congrArg Value.int (hS.2.1)) ?_
      refine q_iload_n F 1 dX8_halves_33 rfl rfl ?_
      refine n_iadd F dX8_halves_34 ?_
      refine q_sipush F (nI 9999) dX8_halves_35 (by decide) ?_
      refine n_le F 44 dX8_halves_38 (by decide) (by omega) (by omega) (fun c_38 => ?_) (fun c_38 => ?_)
      · refine q_aload_n F 0 dX8_halves_44 rfl rfl ?_
        refine gX8_7 F dX8_halves_45 sh_202 rfl ?_
        refine q_iconst F (nI 5) dX8_halves_48 (by decide) ?_
        refine q_iald F dX8_halves_49 sh_203 (by omega) (by decide) ?_
        refine q_top (.int (V_fin (T_nw T))) (congrArg Value.int (hM2.aFin)) ?_
        refine q_istore_n2 F dX8_halves_50 (by decide) rfl ?_
        refine q_iconst F (nI 0) dX8_halves_51 (by decide) ?_
        refine q_istore_n3 F dX8_halves_52 (by decide) rfl ?_
        have L : ∀ k i, i + k = m → ∀ σ2 : vm_M, mMov σ2 203 (0 + 5) (sHs i (T_nw T)) → mPast σ2 (sPushs (T_nw T) (T_pl T, T_pv T) i).1 (sPushs (T_nw T) (T_pl T, T_pv T) i).2 → (∀ o, o ≠ 202 → o ≠ 203 → o ≠ 204 → σ2 o = σ o) → (∀ k, k ≠ 2 → σ2 202 k = σ 202 k) → (∀ k, (k < 5 ∨ 18 < k) → σ2 203 k = σ 203 k) → vm_Ex G C 4 53 [some (.ref 202), some (.int (nI m)), some (.int (V_fin (T_nw T))), some (.int (nI i))] [] σ2 := by
          intro k
          induction k with
          | zero =>
            intro i hi σ2 hMi hPi e1 e2 e3
            refine q_iload_n F 3 dX8_halves_53 rfl rfl ?_
            refine q_iload_n F 1 dX8_halves_54 rfl rfl ?_
            refine n_ge F 73 dX8_halves_55 (by decide) (by omega) (by omega) (fun c_55 => ?_) (fun c_55 => ?_)
            · refine q_aload_n F 0 dX8_halves_73 rfl rfl ?_
              refine gX8_7 F dX8_halves_74 sh_202 rfl ?_
              refine q_iconst F (nI 4) dX8_halves_77 (by decide) ?_
              refine q_dup2 F dX8_halves_78 rfl rfl ?_
              refine q_iald F dX8_halves_79 sh_203 (by omega) (by decide) ?_
              refine q_top (.int (nI (V_gn (T_nw T)))) (congrArg Value.int (by rw [e3 _ (by omega)]; exact hS.2.1)) ?_
              refine q_iload_n F 1 dX8_halves_80 rfl rfl ?_
              refine n_iadd F dX8_halves_81 ?_
              refine q_iast F dX8_halves_82 sh_203 (by omega) (by decide) ?_
              refine q_aload_n F 0 dX8_halves_83 rfl rfl ?_
              refine gX8_7 F dX8_halves_84 sh_202 rfl ?_
              refine q_iconst F (nI 5) dX8_halves_87 (by decide) ?_
              refine q_iald F dX8_halves_88 sh_203 (by omega) (by decide) ?_
              refine q_top (.int (V_fin (sHs i (T_nw T)))) (congrArg Value.int (by rw [vm_upd_k _ _ _ (by omega)]; exact hMi.aFin)) ?_
              refine q_iload_n F 2 dX8_halves_89 rfl rfl ?_
              refine q_iconst F (-1) dX8_halves_90 (by decide) ?_
              refine q_ixor F dX8_halves_91 ?_
              refine q_iand F dX8_halves_92 ?_
              refine K _ _ _ _ ?_ dX8_halves_93 rfl
              have e0 : i = m := by omega
              subst e0
              have e : aHalves T (nI i) = (V_fin (sHs i (T_nw T)) &&& (V_fin (T_nw T) ^^^ (-1)), sT_now T (sHs i (T_nw T)) (sPushs (T_nw T) (T_pl T, T_pv T) i).1 (sPushs (T_nw T) (T_pl T, T_pv T) i).2) := by
                unfold aHalves
                rw [if_neg (by simp [c_6]), if_neg (by rw [nI_toInt hm]; omega), hxm, if_neg (by omega)]
              rw [e]
              have f4 : ∀ k, k ≠ 4 → vm_upd σ2 203 4 (nI (V_gn (T_nw T) + i)) 203 k = σ2 203 k := fun k hk => vm_upd_k _ _ _ hk
              refine ⟨rfl, hM.now hI ⟨?_, ?_, ?_⟩ ?_ (fun o a b c => by rw [vm_upd_n _ _ _ b]; exact e1 o a b c) (fun k hk => by rw [vm_upd_n _ _ _ (by omega)]; exact e2 k hk) (fun k hk _ => by rw [f4 k (by omega)]; exact e3 k (by omega)), fun o ho => by rw [vm_upd_n _ _ _ (by omega)]; exact e1 o (by omega) (by omega) (by omega)⟩
              · refine mFix.hs ?_
                obtain ⟨x1, x2, x3, x4⟩ := hX
                refine ⟨?_, ?_, ?_, fun p hp => ?_⟩
                · rw [f4 _ (by omega), e3 _ (by omega)]; exact x1
                · rw [f4 _ (by omega), e3 _ (by omega)]; exact x2
                · rw [f4 _ (by omega), e3 _ (by omega)]; exact x3
                · rw [f4 _ (by omega), e3 _ (by omega), f4 _ (by omega), e3 _ (by omega)]; exact x4 p hp
              · rw [sHs_gn]; simp [vm_upd, upd]
              · exact hMi.fr (by rw [sHs_n]; exact hn) 203 (fun k hk => f4 _ (by omega))
              · unfold mPast mMov at *; rw [vm_upd_n _ _ _ (show (202 : Nat) ≠ 203 by omega), vm_upd_n _ _ _ (show (204 : Nat) ≠ 203 by omega)]; exact hPi
            · omega
          | succ k ih =>
            intro i hi σ2 hMi hPi e1 e2 e3
            refine q_iload_n F 3 dX8_halves_53 rfl rfl ?_
            refine q_iload_n F 1 dX8_halves_54 rfl rfl ?_
            refine n_ge F 73 dX8_halves_55 (by decide) (by omega) (by omega) (fun c_55 => ?_) (fun c_55 => ?_)
            · omega
            · have hPI := PInv_pushs (t := (T_pl T, T_pv T)) hG ⟨hI.2.2.2.1, hI.2.2.2.2.1⟩ i
              refine q_aload_n F 0 dX8_halves_58 rfl rfl ?_
              refine iX8_162 F dX8_halves_59 (m_keepPast hMi (by rw [sHs_n]; exact hn) hPi hPI.1 (fun j hj => (hPI.2 j hj).1.1.1)) (by decide) sh_202 rfl rfl (Nat.le_of_ble_eq_true rfl) (fun σ_59 h_59 => ?_)
              obtain ⟨hP3, e4, e5⟩ := h_59
              have hM3 : mMov σ_59 203 (0 + 5) (sHs i (T_nw T)) := hMi.fr (by rw [sHs_n]; exact hn) 203 (fun k hk => by rw [e4 203 (by omega) (by omega)])
              have hX3 : mFix σ_59 0 (T_nw T) := by
                obtain ⟨x1, x2, x3, x4⟩ := hX
                have e6 : ∀ k, (k < 5 ∨ 18 < k) → σ_59 203 k = σ 203 k := fun k hk => by rw [e4 203 (by omega) (by omega)]; exact e3 k hk
                refine ⟨?_, ?_, ?_, fun p hp => ?_⟩
                · rw [e6 _ (by omega)]; exact x1
                · rw [e6 _ (by omega)]; exact x2
                · rw [e6 _ (by omega)]; exact x3
                · rw [e6 _ (by omega), e6 _ (by omega)]; exact x4 p hp
              refine q_aload_n F 0 dX8_halves_62 rfl rfl ?_
              refine q_iconst F (nI 0) dX8_halves_63 (by decide) ?_
              refine iX8_165 F dX8_halves_64 (m_halfs (b := 0) hX3 hM3 (Or.inl rfl) hOk) (by decide) sh_202 rfl rfl (Nat.le_of_ble_eq_true rfl) (fun σ_64 h_64 => ?_)
              obtain ⟨hM4, e7, e8⟩ := h_64
              refine q_iinc3 F _ dX8_halves_67 (nI_inc _) (by decide) rfl ?_
              refine q_goto F 53 dX8_halves_70 (by decide) ?_
              refine ih (i + 1) (by omega) _ hM4 ?_ (fun o a b c => (e7 o b).trans ((e4 o a c).trans (e1 o a b c))) (fun k hk => by rw [e7 202 (by omega)]; exact (e5 k hk).trans (e2 k hk)) (fun k hk => (e8 k (by omega)).trans (by rw [e4 203 (by omega) (by omega)]; exact e3 k hk))
              unfold mPast mMov at *
              rw [e7 202 (by omega), e7 204 (by omega)]
              exact hP3
        exact L m 0 (by omega) _ hM2 hPs (fun _ _ _ _ => rfl) (fun _ _ => rfl) (fun _ _ => rfl)
      · refine q_ldc F dX8_halves_41 wX8_69 ?_
        refine K _ _ _ _ ?_ dX8_halves_43 rfl
        have e : aHalves T (nI m) = (sFULL, T) := by
          unfold aHalves
          rw [if_neg (by simp [c_6]), if_neg (by rw [nI_toInt hm]; omega), hxm, if_pos (by omega)]
        rw [e]
        exact ⟨rfl, hM, fun _ _ => rfl⟩
    · have c_21 := of_decide_eq_false c_21
      refine q_ldc F dX8_halves_24 wX8_52 ?_
      refine K _ _ _ _ ?_ dX8_halves_26 rfl
      have e : aHalves T n = (sBAD, T) := by
        unfold aHalves
        rw [if_neg (by simp [c_6]), if_pos (by omega)]
      rw [e]
      exact ⟨rfl, hM, fun _ _ => rfl⟩
  · refine q_ldc F dX8_halves_9 wX8_159 ?_
    refine K _ _ _ _ ?_ dX8_halves_11 rfl
    have e : aHalves T n = (sSTATE, T) := by
      simp [aHalves, c_6]
    rw [e]
    exact ⟨rfl, hM, fun _ _ => rfl⟩
set_option maxHeartbeats 4000000 in
set_option maxRecDepth 100000 in
theorem m_undo {G : vm_G} {σ : vm_M} {T : vm_T} (hM : MInv σ T) (hI : SInv T) : vm_RI G 0 mX8_undo [.ref 202] σ (mPost σ (aUndo T)) := by
  refine vm_int (y := mX8_undo) (by decide) (Nat.le_of_ble_eq_true rfl) (ls0 := [some (.ref 202), none]) rfl rfl (fun C F K => ?_)
  have F : vm_F G C cX8_undo RX8 2 _ := F
  show vm_Ex G C 2 0 [some (.ref 202), none] [] _
  obtain ⟨hR, hTp, ⟨hHp, hS⟩, hPs, hIm, hTr, hFl, hFn⟩ := id hM
  have hX := hS.1
  have hM2 : mMov σ 203 (0 + 5) (T_nw T) := hS.2.2
  have hG := hI.1
  have hOk := hG.1
  have hn : V_n (T_nw T) ≤ 6 := hOk.1
  refine q_aload_n F 0 dX8_undo_0 rfl rfl ?_
  refine gX8_142 F dX8_undo_1 sh_202 rfl ?_
  refine q_top (.int (nI (T_pl T))) (congrArg Value.int (hPs.1)) ?_
  refine z_ne F 10 dX8_undo_4 (by decide) (by have := hI.2.2.2.1; omega) (fun c_4 => ?_) (fun c_4 => ?_)
  · have hpl := hI.2.2.2.1
    refine q_aload_n F 0 dX8_undo_10 rfl rfl ?_
    refine q_dup F dX8_undo_11 rfl ?_
    refine gX8_142 F dX8_undo_12 sh_202 rfl ?_
    refine q_top (.int (nI (T_pl T))) (congrArg Value.int (hPs.1)) ?_
    refine q_iconst F (nI 1) dX8_undo_15 (by decide) ?_
    refine n_isub F dX8_undo_16 (by omega) ?_
    refine pX8_142 F dX8_undo_17 sh_202 rfl ⟨rfl, rfl⟩ ?_
    refine q_iconst F (nI 0) dX8_undo_20 (by decide) ?_
    refine q_istore_n1 F dX8_undo_21 (by decide) rfl ?_
    have L : ∀ k i, i + k = 14 → ∀ σ2 : vm_M, (∀ j, j < i → σ2 203 (5 + j) = σ 204 (14 * (T_pl T - 1) + j)) → (∀ j, (j < 5 ∨ 5 + i ≤ j) → σ2 203 j = σ 203 j) → (∀ o, o ≠ 202 → o ≠ 203 → σ2 o = σ o) → (∀ k, k ≠ 2 → σ2 202 k = σ 202 k) → σ2 202 2 = nI (T_pl T - 1) → vm_Ex G C 2 22 [some (.ref 202), some (.int (nI i))] [] σ2 := by
      intro k
      induction k with
      | zero =>
        intro i hi σ2 e1 e2 e3 e4 e5
        refine q_iload_n F 1 dX8_undo_22 rfl rfl ?_
        refine q_bipush F (nI 14) dX8_undo_23 (by decide) ?_
        refine n_ge F 56 dX8_undo_25 (by decide) (by omega) (by omega) (fun c_25 => ?_) (fun c_25 => ?_)
        · have hgn1 : 1 ≤ V_gn (T_nw T) := by
            have := (hI.2.2.2.2.1 (T_pl T - 1) (by omega)).2.2
            omega
          refine q_aload_n F 0 dX8_undo_56 rfl rfl ?_
          refine gX8_7 F dX8_undo_57 sh_202 rfl ?_
          refine q_iconst F (nI 4) dX8_undo_60 (by decide) ?_
          refine q_dup2 F dX8_undo_61 rfl rfl ?_
          refine q_iald F dX8_undo_62 sh_203 (by omega) (by decide) ?_
          refine q_top (.int (nI (V_gn (T_nw T)))) (congrArg Value.int (by rw [e2 _ (by omega)]; exact hS.2.1)) ?_
          refine q_iconst F (nI 1) dX8_undo_63 (by decide) ?_
          refine n_isub F dX8_undo_64 (by omega) ?_
          refine q_iast F dX8_undo_65 sh_203 (by omega) (by decide) ?_
          refine q_aload_n F 0 dX8_undo_66 rfl rfl ?_
          refine gX8_142 F dX8_undo_67 sh_202 rfl ?_
          refine q_top (.int (nI (T_pl T - 1))) (congrArg Value.int (by rw [vm_upd_n _ _ _ (by omega)]; exact e5)) ?_
          refine K _ _ _ _ ?_ dX8_undo_70 rfl
          have e0 : i = 14 := by omega
          subst e0
          have e : aUndo T = (nI (T_pl T - 1), sT_now T (T_pv T (T_pl T - 1)) (T_pl T - 1) (T_pv T)) := by
            unfold aUndo
            rw [if_neg c_4]
          rw [e]
          have hp : T_pl T - 1 < T_pl T := by omega
          obtain ⟨b1, b2, b3⟩ := hI.2.2.2.2.1 _ hp
          have f4 : ∀ k, k ≠ 4 → vm_upd σ2 203 4 (nI (V_gn (T_nw T) - 1)) 203 k = σ2 203 k := fun k hk => vm_upd_k _ _ _ hk
          refine ⟨rfl, hM.now hI ⟨?_, ?_, ?_⟩ ⟨?_, fun j hj => ?_⟩ (fun o a b c => by rw [vm_upd_n _ _ _ b]; exact e3 o a b) (fun k hk => by rw [vm_upd_n _ _ _ (by omega)]; exact e4 k hk) (fun k hk _ => by rw [f4 k (by omega)]; exact e2 k (by omega)), fun o ho => by rw [vm_upd_n _ _ _ (by omega)]; exact e3 o (by omega) (by omega)⟩
          · obtain ⟨s1, s2, s3, s4, s5⟩ := b2
            obtain ⟨x1, x2, x3, x4⟩ := hX
            unfold mFix
            rw [s1, s2, s3, s4, s5]
            refine ⟨?_, ?_, ?_, fun p hp => ?_⟩
            · rw [f4 _ (by omega), e2 _ (by omega)]; exact x1
            · rw [f4 _ (by omega), e2 _ (by omega)]; exact x2
            · rw [f4 _ (by omega), e2 _ (by omega)]; exact x3
            · rw [f4 _ (by omega), e2 _ (by omega), f4 _ (by omega), e2 _ (by omega)]; exact x4 p hp
          · rw [show V_gn (T_pv T (T_pl T - 1)) = V_gn (T_nw T) - 1 by omega]; simp [vm_upd, upd]
          · refine (hPs.2 _ hp).fr b1.1.1 203 (fun k hk => ?_)
            rw [f4 _ (by omega), Nat.zero_add]
            exact e1 k hk
          · rw [vm_upd_n _ _ _ (by omega)]; exact e5
          · refine (hPs.2 j (by omega)).fr (hI.2.2.2.2.1 j (by omega)).1.1.1 204 (fun k hk => ?_)
            rw [vm_upd_n _ _ _ (by omega), e3 204 (by omega) (by omega)]
        · omega
      | succ k ih =>
        intro i hi σ2 e1 e2 e3 e4 e5
        refine q_iload_n F 1 dX8_undo_22 rfl rfl ?_
        refine q_bipush F (nI 14) dX8_undo_23 (by decide) ?_
        refine n_ge F 56 dX8_undo_25 (by decide) (by omega) (by omega) (fun c_25 => ?_) (fun c_25 => ?_)
        · omega
        · refine q_aload_n F 0 dX8_undo_28 rfl rfl ?_
          refine gX8_7 F dX8_undo_29 sh_202 rfl ?_
          refine q_iconst F (nI 5) dX8_undo_32 (by decide) ?_
          refine q_iload_n F 1 dX8_undo_33 rfl rfl ?_
          refine n_iadd F dX8_undo_34 ?_
          refine q_aload_n F 0 dX8_undo_35 rfl rfl ?_
          refine gX8_13 F dX8_undo_36 sh_202 rfl ?_
          refine q_bipush F (nI 14) dX8_undo_39 (by decide) ?_
          refine q_aload_n F 0 dX8_undo_41 rfl rfl ?_
          refine gX8_142 F dX8_undo_42 sh_202 rfl ?_
          refine q_top (.int (nI (T_pl T - 1))) (congrArg Value.int (e5)) ?_
          refine n_imul F dX8_undo_45 ?_
          refine q_iload_n F 1 dX8_undo_46 rfl rfl ?_
          refine n_iadd F dX8_undo_47 ?_
          refine q_iald F dX8_undo_48 sh_204 (by omega) (by decide) ?_
          refine q_top (.int (σ 204 (14 * (T_pl T - 1) + i))) (congrArg Value.int (by rw [e3 204 (by omega) (by omega)])) ?_
          refine q_iast F dX8_undo_49 sh_203 (by omega) (by decide) ?_
          refine q_iinc1 F _ dX8_undo_50 (nI_inc _) (by decide) rfl ?_
          refine q_goto F 22 dX8_undo_53 (by decide) ?_
          refine ih (i + 1) (by omega) _ (fun j hj => ?_) (fun j hj => ?_) (fun o a b => by rw [vm_upd_n _ _ _ b]; exact e3 o a b) (fun k hk => by rw [vm_upd_n _ _ _ (by omega)]; exact e4 k hk) (by rw [vm_upd_n _ _ _ (by omega)]; exact e5)
          · by_cases ej : j = i
            · rw [ej]; simp [vm_upd, upd]
            · rw [vm_upd_k _ _ _ (by omega)]; exact e1 j (by omega)
          · rw [vm_upd_k _ _ _ (by omega)]; exact e2 j (by omega)
    exact L 14 0 (by omega) _ (fun j hj => absurd hj (Nat.not_lt_zero _)) (fun j _ => by rw [vm_upd_n _ _ _ (by omega)]) (fun o a _ => vm_upd_n _ _ _ a) (fun k hk => vm_upd_k _ _ _ hk) (by simp [vm_upd, upd])
  · refine q_ldc F dX8_undo_7 wX8_159 ?_
    refine K _ _ _ _ ?_ dX8_undo_9 rfl
    have e : aUndo T = (sSTATE, T) := by
      simp [aUndo, c_4]
    rw [e]
    exact ⟨rfl, hM, fun _ _ => rfl⟩
theorem MInv.img {σ σ' : vm_M} {T : vm_T} (h : MInv σ T) (hI : SInv T) {j : Nat} (hj : j < 2) (hhp : T_hp T = true) (g1 : ∀ i, i < 31 → σ' 203 (31 * (1 + j) + i) = σ 203 (31 * 0 + i)) (g2 : ∀ o, o ≠ 203 → σ' o = σ o) (g3 : ∀ i, i < 31 * (1 + j) ∨ 31 * (1 + j) + 31 ≤ i → σ' 203 i = σ 203 i) : MInv σ' (sT_img T (vm_u (T_im T) j true) (vm_u (T_iv T) j (T_nw T))) := by
  obtain ⟨h1, h2, ⟨h3, h9⟩, h4, h5, h6, h7, h8⟩ := h
  refine ⟨?_, ?_, ⟨(g3 _ (by omega)).trans h3, h9.mv hI.1.1.1 0 (fun k _ hk => g3 _ (by omega))⟩, ?_, ?_, ?_, ?_, ?_⟩
  · unfold mRows; rw [g2 206 (by omega), g2 207 (by omega), g2 208 (by omega)]; exact h1
  · unfold mTape; rw [g2 202 (by omega), g2 205 (by omega)]; exact h2
  · unfold mPast mMov at *; rw [g2 202 (by omega), g2 204 (by omega)]; exact h4
  · intro k hk
    show σ' 203 (31 * (k + 1)) = bI (vm_u (T_im T) j true k) ∧ (vm_u (T_im T) j true k = true → mSec σ' (31 * (k + 1)) (vm_u (T_iv T) j (T_nw T) k))
    by_cases e : k = j
    · subst e
      rw [vm_u_s, vm_u_s]
      have a1 := g1 0 (by omega)
      rw [show 31 * (1 + k) + 0 = 31 * (k + 1) by omega] at a1
      refine ⟨a1.trans (h3.trans (by rw [hhp])), fun _ => h9.mv hI.1.1.1 _ (fun i hi1 hi => ?_)⟩
      have := g1 i (by omega)
      rw [show 31 * (1 + k) + i = 31 * (k + 1) + i by omega, Nat.mul_zero] at this
      exact this
    · rw [vm_u_n e, vm_u_n e]
      obtain ⟨a1, a2⟩ := h5 k hk
      exact ⟨(g3 _ (by omega)).trans a1, fun z => (a2 z).mv (hI.2.2.2.2.2.1 k hk z).1.1.1 _ (fun i _ hi => g3 _ (by omega))⟩
  · unfold mTr; rw [g2 202 (by omega), g2 209 (by omega)]; exact h6
  · rw [g2 202 (by omega)]; exact h7
  · rw [g2 202 (by omega)]; exact h8
set_option maxHeartbeats 4000000 in
set_option maxRecDepth 100000 in
theorem m_image {G : vm_G} {σ : vm_M} {T : vm_T} (hM : MInv σ T) (hI : SInv T) (x : Int32) : vm_RI G 1 mX8_image [.ref 202, .int x] σ (mPost σ (aImage T x)) := by
  refine vm_int (y := mX8_image) (by decide) (Nat.le_of_ble_eq_true rfl) (ls0 := [some (.ref 202), some (.int x)]) rfl rfl (fun C F K => ?_)
  have F : vm_F G C cX8_image RX8 2 _ := F
  show vm_Ex G C 2 0 [some (.ref 202), some (.int x)] [] _
  obtain ⟨hR, hTp, ⟨hHp, hS⟩, hPs, hIm, hTr, hFl, hFn⟩ := id hM
  have hX := hS.1
  have hM2 : mMov σ 203 (0 + 5) (T_nw T) := hS.2.2
  have hG := hI.1
  have hOk := hG.1
  have hn : V_n (T_nw T) ≤ 6 := hOk.1
  refine q_iload_n F 1 dX8_image_0 rfl rfl ?_
  refine q_i2l F dX8_image_1 ?_
  refine q_lconst F (lN 0) dX8_image_2 (by decide) ?_
  refine q_lconst F (lN 1) dX8_image_3 (by decide) ?_
  refine iX8_42 F dX8_image_4 (m_in _ _ _) (by decide) rfl rfl (Nat.le_of_ble_eq_true rfl) (fun v_4 σ_4 h_4 => ?_)
  obtain ⟨rfl, h_4⟩ := h_4
  obtain rfl := h_4.symm
  refine q_top (.int (bI (wi x 2))) (congrArg Value.int (by rw [in_wi (n := 2) (by decide) (by decide)])) ?_
  refine b_ne F 13 dX8_image_7 (by decide) (fun c_7 => ?_) (fun c_7 => ?_)
  · obtain ⟨j, hpj, rfl⟩ := wi_of c_7
    have hxj := xN_nI (show j < 2 ^ 31 by omega)
    refine q_aload_n F 0 dX8_image_13 rfl rfl ?_
    refine gX8_7 F dX8_image_14 sh_202 rfl ?_
    refine q_iconst F (nI 0) dX8_image_17 (by decide) ?_
    refine q_iald F dX8_image_18 sh_203 (by omega) (by decide) ?_
    refine q_top (.int (bI (T_hp T))) (congrArg Value.int (hHp)) ?_
    refine b_ne F 25 dX8_image_19 (by decide) (fun c_19 => ?_) (fun c_19 => ?_)
    · refine q_aload_n F 0 dX8_image_25 rfl rfl ?_
      refine q_iconst F (nI 0) dX8_image_26 (by decide) ?_
      refine q_iconst F (nI 1) dX8_image_27 (by decide) ?_
      refine q_iload_n F 1 dX8_image_28 rfl rfl ?_
      refine n_iadd F dX8_image_29 ?_
      refine iX8_186 F dX8_image_30 (m_copy0 (f := 0) (t := 1 + j) (by omega) (by omega) (by omega)) (by decide) sh_202 rfl rfl (Nat.le_of_ble_eq_true rfl) (fun σ_30 h_30 => ?_)
      obtain ⟨g1, g2, g3⟩ := h_30
      refine q_iconst F (nI 1) dX8_image_33 (by decide) ?_
      refine K _ _ _ _ ?_ dX8_image_34 rfl
      have e : aImage T (nI j) = (nI 1, sT_img T (vm_u (T_im T) j true) (vm_u (T_iv T) j (T_nw T))) := by
        simp [aImage, c_7, c_19, hxj]
      rw [e]
      exact ⟨rfl, hM.img hI hpj c_19 g1 g2 g3, fun o ho => g2 o (by omega)⟩
    · refine q_ldc F dX8_image_22 wX8_159 ?_
      refine K _ _ _ _ ?_ dX8_image_24 rfl
      have e : aImage T (nI j) = (sSTATE, T) := by
        simp [aImage, c_7, c_19]
      rw [e]
      exact ⟨rfl, hM, fun _ _ => rfl⟩
  · refine q_ldc F dX8_image_10 wX8_52 ?_
    refine K _ _ _ _ ?_ dX8_image_12 rfl
    have e : aImage T x = (sBAD, T) := by
      simp [aImage, c_7]
    rw [e]
    exact ⟨rfl, hM, fun _ _ => rfl⟩
set_option maxHeartbeats 4000000 in
set_option maxRecDepth 100000 in
theorem m_restore {G : vm_G} {σ : vm_M} {T : vm_T} (hM : MInv σ T) (hI : SInv T) (x : Int32) : vm_RI G 1 mX8_restore [.ref 202, .int x] σ (mPost σ (aRestore T x)) := by
  refine vm_int (y := mX8_restore) (by decide) (Nat.le_of_ble_eq_true rfl) (ls0 := [some (.ref 202), some (.int x)]) rfl rfl (fun C F K => ?_)
  have F : vm_F G C cX8_restore RX8 2 _ := F
  show vm_Ex G C 2 0 [some (.ref 202), some (.int x)] [] _
  obtain ⟨hR, hTp, ⟨hHp, hS⟩, hPs, hIm, hTr, hFl, hFn⟩ := id hM
  have hX := hS.1
  have hM2 : mMov σ 203 (0 + 5) (T_nw T) := hS.2.2
  have hG := hI.1
  have hOk := hG.1
  have hn : V_n (T_nw T) ≤ 6 := hOk.1
  refine q_iload_n F 1 dX8_restore_0 rfl rfl ?_
  refine q_i2l F dX8_restore_1 ?_
  refine q_lconst F (lN 0) dX8_restore_2 (by decide) ?_
  refine q_lconst F (lN 1) dX8_restore_3 (by decide) ?_
  refine iX8_42 F dX8_restore_4 (m_in _ _ _) (by decide) rfl rfl (Nat.le_of_ble_eq_true rfl) (fun v_4 σ_4 h_4 => ?_)
  obtain ⟨rfl, h_4⟩ := h_4
  obtain rfl := h_4.symm
  refine q_top (.int (bI (wi x 2))) (congrArg Value.int (by rw [in_wi (n := 2) (by decide) (by decide)])) ?_
  refine b_ne F 13 dX8_restore_7 (by decide) (fun c_7 => ?_) (fun c_7 => ?_)
  · obtain ⟨j, hpj, rfl⟩ := wi_of c_7
    have hxj := xN_nI (show j < 2 ^ 31 by omega)
    refine q_aload_n F 0 dX8_restore_13 rfl rfl ?_
    refine gX8_7 F dX8_restore_14 sh_202 rfl ?_
    refine q_bipush F (nI 31) dX8_restore_17 (by decide) ?_
    refine q_iconst F (nI 1) dX8_restore_19 (by decide) ?_
    refine q_iload_n F 1 dX8_restore_20 rfl rfl ?_
    refine n_iadd F dX8_restore_21 ?_
    refine n_imul F dX8_restore_22 ?_
    refine q_iconst F (nI 0) dX8_restore_23 (by decide) ?_
    refine n_iadd F dX8_restore_24 ?_
    refine q_iald F dX8_restore_25 sh_203 (by omega) (by decide) ?_
    refine q_top (.int (bI (T_im T j))) (congrArg Value.int (by have := (hIm j hpj).1; rw [show 31 * (j + 1) = 31 * (1 + j) + 0 by omega] at this; exact this)) ?_
    refine b_ne F 32 dX8_restore_26 (by decide) (fun c_26 => ?_) (fun c_26 => ?_)
    · refine q_aload_n F 0 dX8_restore_32 rfl rfl ?_
      refine q_iconst F (nI 1) dX8_restore_33 (by decide) ?_
      refine q_iload_n F 1 dX8_restore_34 rfl rfl ?_
      refine n_iadd F dX8_restore_35 ?_
      refine q_iconst F (nI 0) dX8_restore_36 (by decide) ?_
      refine iX8_186 F dX8_restore_37 (m_copy0 (f := 1 + j) (t := 0) (by omega) (by omega) (by omega)) (by decide) sh_202 rfl rfl (Nat.le_of_ble_eq_true rfl) (fun σ_37 h_37 => ?_)
      obtain ⟨g1, g2, g3⟩ := h_37
      refine q_aload_n F 0 dX8_restore_40 rfl rfl ?_
      refine q_iconst F (nI 0) dX8_restore_41 (by decide) ?_
      refine pX8_142 F dX8_restore_42 sh_202 rfl ⟨rfl, rfl⟩ ?_
      refine q_iconst F (nI 1) dX8_restore_45 (by decide) ?_
      refine K _ _ _ _ ?_ dX8_restore_46 rfl
      have e : aRestore T (nI j) = (nI 1, sT_now T (T_iv T j) 0 (T_pv T)) := by
        simp [aRestore, c_7, c_26, hxj]
      rw [e]
      obtain ⟨b1, b2, b3⟩ := hI.2.2.2.2.2.1 j hpj c_26
      have hs := (hIm j hpj).2 c_26
      have u : ∀ k, vm_upd σ_37 202 2 (nI 0) 203 k = σ_37 203 k := fun k => by rw [vm_upd_n _ _ _ (by omega)]
      have g10 := g1 0 (by omega)
      have i0 := (hIm j hpj).1
      refine ⟨rfl, hM.now hI (hs.mv b1.1.1 0 (fun i _ hi => ?_)) ⟨by simp [vm_upd, upd], fun i hi => absurd hi (Nat.not_lt_zero _)⟩ (fun o a b c => by rw [vm_upd_n _ _ _ a]; exact g2 o b) (fun k hk => by rw [vm_upd_k _ _ _ hk, g2 202 (by omega)]) (fun k hk _ => ?_), fun o ho => by rw [vm_upd_n _ _ _ (by omega)]; exact g2 o (by omega)⟩
      · have := g1 i (by omega)
        rw [u, show 31 * (j + 1) + i = 31 * (1 + j) + i by omega]
        rw [Nat.mul_zero] at this
        exact this
      · rw [u]
        by_cases ek : k = 0
        · subst ek
          have g11 : σ_37 203 0 = σ 203 (31 * (1 + j) + 0) := g10
          rw [g11, show 31 * (1 + j) + 0 = 31 * (j + 1) by omega, i0, hHp, c_26, b3]
        · exact g3 k (by omega)
    · refine q_ldc F dX8_restore_29 wX8_159 ?_
      refine K _ _ _ _ ?_ dX8_restore_31 rfl
      have e : aRestore T (nI j) = (sSTATE, T) := by
        simp [aRestore, c_7, hxj, c_26]
      rw [e]
      exact ⟨rfl, hM, fun _ _ => rfl⟩
  · refine q_ldc F dX8_restore_10 wX8_52 ?_
    refine K _ _ _ _ ?_ dX8_restore_12 rfl
    have e : aRestore T x = (sBAD, T) := by
      simp [aRestore, c_7]
    rw [e]
    exact ⟨rfl, hM, fun _ _ => rfl⟩
