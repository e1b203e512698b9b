theorem rAll_0 {tl : Nat} {tb : Nat → Nat} {x t : Nat} (h0 : tTy tl tb (tQ tl tb (4 + 6 * 6)) ≠ 0) (e : fPer tl tb 6 = (x, t)) : x ≠ 0 ∧ rAll tl tb 0 6 = (x, t, 6) := by
  unfold fPer at e
  unfold rAll
  rw [if_neg h0]
  split at e
  · next h1 =>
    rw [if_pos rfl] at e
    injection e with e1 e2
    subst e1 e2
    exact ⟨by decide, by rw [if_pos h1]⟩
  · next h1 =>
    injection e with e1 e2
    subst e1 e2
    exact ⟨by decide, by rw [if_neg h1]⟩
theorem rAll_s {tl : Nat} {tb : Nat → Nat} {x t m p : Nat} (h0 : tTy tl tb (tQ tl tb (4 + 6 * p)) ≠ 0) (hp : p < 6) (e : fPer tl tb p = (x, t)) : rAll tl tb (m + 1) p = if x = 0 then rAll tl tb m (p + 1) else (x, t, p) := by
  unfold fPer at e
  rw [rAll, if_neg h0]
  split at e
  · next h1 =>
    rw [if_neg (by omega)] at e
    rw [if_pos h1, e]
  · next h1 =>
    injection e with e1 e2
    subst e1 e2
    rw [if_neg h1, if_neg (by decide)]
set_option maxHeartbeats 1000000 in
set_option maxRecDepth 100000 in
theorem m_readsAll {G : vm_G} {σ : vm_M} {tl : Nat} {tb : Nat → Nat} (hT : mRd σ tl tb) : vm_RI G 5 mX8_readsAll [.ref 202] σ (fun r σ' => ∃ x t n, rRead tl tb = (x, t, n) ∧ r = bI (decide (x = 0)) ∧ (x = 0 → n ≤ 6 ∧ σ' 202 18 = nI n ∧ σ' 202 15 = nI (2 * qV tl tb 1) ∧ σ' 202 16 = nI (qV tl tb 2) ∧ mRP σ' tl tb n ∧ σ' 202 5 = σ 202 5 ∧ mFR σ σ') ∧ (x ≠ 0 → σ' 202 13 = nI (tQ tl tb t) ∧ σ' 202 5 = nI x ∧ mFR σ σ')) := by
  refine vm_int (y := mX8_readsAll) (by decide) (Nat.le_of_ble_eq_true rfl) (ls0 := [some (.ref 202)]) rfl rfl (fun C F K => ?_)
  have F : vm_F G C cX8_readsAll RX8 1 _ := F
  show vm_Ex G C 1 0 [some (.ref 202)] [] _
  refine q_aload_n F 0 dX8_readsAll_0 rfl rfl ?_
  refine q_iconst F (nI 0) dX8_readsAll_1 (by decide) ?_
  refine pX8_72 F dX8_readsAll_2 sh_202 rfl ⟨rfl, rfl⟩ ?_
  refine q_aload_n F 0 dX8_readsAll_5 rfl rfl ?_
  refine q_iconst F (nI 0) dX8_readsAll_6 (by decide) ?_
  refine pX8_114 F dX8_readsAll_7 sh_202 rfl ⟨rfl, rfl⟩ ?_
  refine q_aload_n F 0 dX8_readsAll_10 rfl rfl ?_
  have hT0 : mRd (vm_upd (vm_upd σ 202 12 (nI 0)) 202 18 (nI 0)) tl tb := (hT.up (by omega)).up (by omega)
  have fU : mFR σ (vm_upd (vm_upd σ 202 12 (nI 0)) 202 18 (nI 0)) := (mFR.rf.up (by omega)).up (by omega)
  refine iX8_93 F dX8_readsAll_11 (m_tok0 hT0 (by rw [vm_upd_k _ _ _ (by omega)]; simp [vm_upd, upd])) (by decide) sh_202 rfl rfl (Nat.le_of_ble_eq_true rfl) (fun σ_11 h_11 => ?_)
  obtain ⟨hk0, f0⟩ := h_11
  have hT1 := hT0.ft f0
  obtain ⟨lf, lt, hl⟩ : ∃ x t, rLane tl tb = (x, t) := ⟨_, _, rfl⟩
  have RPa := m_readsPath (G := G) hT1 hk0
  rw [hl] at RPa
  dsimp only at RPa
  refine q_aload_n F 0 dX8_readsAll_14 rfl rfl ?_
  refine iX8_128 F dX8_readsAll_15 (RPa) (by decide) sh_202 rfl rfl (Nat.le_of_ble_eq_true rfl) (fun v_15 σ_15 h_15 => ?_)
  obtain ⟨w15, y15, n15⟩ := h_15
  obtain rfl := w15.symm
  refine b_ne F 23 dX8_readsAll_18 (by decide) (fun c_18 => ?_) (fun c_18 => ?_)
  · have c_18 := of_decide_eq_true c_18
    obtain ⟨g1, g2, g3, hq30, g5, g6, g7⟩ := y15 c_18
    have r18 : σ_15 202 18 = nI 0 := by rw [g5, f0.2 18 (by omega) (by omega) (by omega)]; simp [vm_upd, upd]
    have r5 : σ_15 202 5 = σ 202 5 := by rw [g6, f0.2 5 (by omega) (by omega) (by omega), vm_upd_k _ _ _ (by omega), vm_upd_k _ _ _ (by omega)]
    have hRA : rRead tl tb = rAll tl tb 6 0 := by unfold rRead; rw [hl]; exact if_pos c_18
    have LA : ∀ m p, p + m = 6 → ∀ σ2 : vm_M, rRead tl tb = rAll tl tb m p → mTk σ2 tl tb (4 + 6 * p) → σ2 202 18 = nI p → σ2 202 15 = nI (2 * qV tl tb 1) → σ2 202 16 = nI (qV tl tb 2) → mRP σ2 tl tb p → σ2 202 5 = σ 202 5 → mFR σ σ2 → vm_Ex G C 1 23 [some (.ref 202)] [] σ2 := by
      intro m
      induction m with
      | zero =>
        intro p hp σ2 hr hk h18 h15 h16 hP h5 f
        have hq := tQ_le tl tb (4 + 6 * p)
        have htl := hT.2.1
        refine q_aload_n F 0 dX8_readsAll_23 rfl rfl ?_
        refine gX8_75 F dX8_readsAll_24 sh_202 rfl ?_
        refine q_top (.int (nI (tQ tl tb (4 + 6 * p)))) (congrArg Value.int (hk.2.1)) ?_
        refine q_aload_n F 0 dX8_readsAll_27 rfl rfl ?_
        refine gX8_66 F dX8_readsAll_28 sh_202 rfl ?_
        refine q_top (.int (nI tl)) (congrArg Value.int ((hT.fr f).1)) ?_
        refine n_ge F 43 dX8_readsAll_31 (by decide) (by omega) (by omega) (fun c_31 => ?_) (fun c_31 => ?_)
        · have e0 : tTy tl tb (tQ tl tb (4 + 6 * p)) = 0 := ty_0.mpr (by omega)
          refine q_iconst F (nI 1) dX8_readsAll_43 (by decide) ?_
          refine K _ _ _ _ ?_ dX8_readsAll_44 (by decide)
          exact ⟨0, 0, p, by rw [hr, rAll, if_pos e0], by decide, fun _ => ⟨by omega, h18, h15, h16, hP, h5, f⟩, fun z => absurd rfl z⟩
        · have e0 : tTy tl tb (tQ tl tb (4 + 6 * p)) ≠ 0 := fun z => by have := ty_0.mp z; omega
          obtain rfl : p = 6 := by omega
          refine q_aload_n F 0 dX8_readsAll_34 rfl rfl ?_
          refine iX8_131 F dX8_readsAll_35 (m_readsPerson (hT.fr f) hk h18 (by omega) h15 hq30 hP) (by decide) sh_202 rfl rfl (Nat.le_of_ble_eq_true rfl) (fun v_35 σ_35 h_35 => ?_)
          obtain ⟨x, t, e, w35, y35, n35⟩ := h_35
          obtain rfl := w35.symm
          refine b_ne F 23 dX8_readsAll_38 (by decide) (fun c_38 => ?_) (fun c_38 => ?_)
          · exact absurd (of_decide_eq_true c_38) (rAll_0 e0 e).1
          · have c_38 := of_decide_eq_false c_38
            refine q_iconst F (nI 0) dX8_readsAll_41 (by decide) ?_
            refine K _ _ _ _ ?_ dX8_readsAll_42 (by decide)
            obtain ⟨g1, g2, g3⟩ := n35 c_38
            exact ⟨x, t, 6, by rw [hr]; exact (rAll_0 e0 e).2, by rw [decide_eq_false c_38]; decide, fun z => absurd z c_38, fun _ => ⟨g1, g2, f.tr g3⟩⟩
      | succ m ih =>
        intro p hp σ2 hr hk h18 h15 h16 hP h5 f
        have hq := tQ_le tl tb (4 + 6 * p)
        have htl := hT.2.1
        refine q_aload_n F 0 dX8_readsAll_23 rfl rfl ?_
        refine gX8_75 F dX8_readsAll_24 sh_202 rfl ?_
        refine q_top (.int (nI (tQ tl tb (4 + 6 * p)))) (congrArg Value.int (hk.2.1)) ?_
        refine q_aload_n F 0 dX8_readsAll_27 rfl rfl ?_
        refine gX8_66 F dX8_readsAll_28 sh_202 rfl ?_
        refine q_top (.int (nI tl)) (congrArg Value.int ((hT.fr f).1)) ?_
        refine n_ge F 43 dX8_readsAll_31 (by decide) (by omega) (by omega) (fun c_31 => ?_) (fun c_31 => ?_)
        · have e0 : tTy tl tb (tQ tl tb (4 + 6 * p)) = 0 := ty_0.mpr (by omega)
          refine q_iconst F (nI 1) dX8_readsAll_43 (by decide) ?_
          refine K _ _ _ _ ?_ dX8_readsAll_44 (by decide)
          exact ⟨0, 0, p, by rw [hr, rAll, if_pos e0], by decide, fun _ => ⟨by omega, h18, h15, h16, hP, h5, f⟩, fun z => absurd rfl z⟩
        · have e0 : tTy tl tb (tQ tl tb (4 + 6 * p)) ≠ 0 := fun z => by have := ty_0.mp z; omega
          refine q_aload_n F 0 dX8_readsAll_34 rfl rfl ?_
          refine iX8_131 F dX8_readsAll_35 (m_readsPerson (hT.fr f) hk h18 (by omega) h15 hq30 hP) (by decide) sh_202 rfl rfl (Nat.le_of_ble_eq_true rfl) (fun v_35 σ_35 h_35 => ?_)
          obtain ⟨x, t, e, w35, y35, n35⟩ := h_35
          obtain rfl := w35.symm
          refine b_ne F 23 dX8_readsAll_38 (by decide) (fun c_38 => ?_) (fun c_38 => ?_)
          · have c_38 := of_decide_eq_true c_38
            obtain ⟨g1, g2, g3, g4, g5, g6, g7⟩ := y35 c_38
            exact ih (p + 1) (by omega) _ (by rw [hr, rAll_s e0 (by omega) e, if_pos c_38]) g1 g2 (g3.trans h15) (g4.trans h16) g5 (g6.trans h5) (f.tr g7)
          · have c_38 := of_decide_eq_false c_38
            refine q_iconst F (nI 0) dX8_readsAll_41 (by decide) ?_
            refine K _ _ _ _ ?_ dX8_readsAll_42 (by decide)
            obtain ⟨g1, g2, g3⟩ := n35 c_38
            exact ⟨x, t, p, by rw [hr, rAll_s e0 (by omega) e, if_neg c_38], by rw [decide_eq_false c_38]; decide, fun z => absurd z c_38, fun _ => ⟨g1, g2, f.tr g3⟩⟩
    exact LA 6 0 (by omega) _ hRA g1 r18 g2 g3 (fun j hj => absurd hj (Nat.not_lt_zero _)) r5 ((fU.tr f0.fr).tr g7)
  · have c_18 := of_decide_eq_false c_18
    refine q_iconst F (nI 0) dX8_readsAll_21 (by decide) ?_
    refine K _ _ _ _ ?_ dX8_readsAll_22 (by decide)
    obtain ⟨g1, g2, g3⟩ := n15 c_18
    exact ⟨lf, lt, 0, by unfold rRead; rw [hl]; exact if_neg c_18, by rw [decide_eq_false c_18]; decide, fun z => absurd z c_18, fun _ => ⟨g1, g2, (fU.tr f0.fr).tr g3⟩⟩
theorem vm_upd5 {σ : vm_M} {k1 k2 k3 k4 k5 z : Nat} {x1 x2 x3 x4 x5 : Int32} (h1 : z ≠ k1) (h2 : z ≠ k2) (h3 : z ≠ k3) (h4 : z ≠ k4) (h5 : z ≠ k5) : vm_upd (vm_upd (vm_upd (vm_upd (vm_upd σ 203 k1 x1) 203 k2 x2) 203 k3 x3) 203 k4 x4) 203 k5 x5 203 z = σ 203 z := by
  rw [vm_upd_k _ _ _ h5, vm_upd_k _ _ _ h4, vm_upd_k _ _ _ h3, vm_upd_k _ _ _ h2, vm_upd_k _ _ _ h1]
theorem way_or : ∀ q, q < 2 → ∀ m, m < 64 → ∀ i, i < 6 → nI m ||| (nI q <<< (nI i &&& 31)) = nI (if q = 1 then m ||| 2 ^ i else m) := by decide +kernel
theorem wM_way {f : Nat → Nat} {i : Nat} (hi : i < 6) (hq : f i ≤ 1) : nI (wM (fun j => decide (f j = 1)) i) ||| (nI (f i) <<< (nI i &&& 31)) = nI (wM (fun j => decide (f j = 1)) (i + 1)) := by
  rw [way_or _ (by omega) _ (wM_64 (by omega)) _ hi, wM]
  by_cases h : f i = 1
  · rw [if_pos h, if_pos (by simp [h])]
    congr 1
    have hl := wM_lt (fun j => decide (f j = 1)) i
    have := Nat.two_pow_add_eq_or_of_lt hl 1
    rw [Nat.mul_one] at this
    rw [Nat.or_comm, ← this]
    omega
  · rw [if_neg h, if_neg (by simp [h])]
theorem sC_cg {gl gl2 sp sp2 : Nat → Int32} {er er2 : Nat → Nat} {f : Int32} : ∀ {n : Nat}, (∀ j, j < n → sp j = sp2 j ∧ er j = er2 j ∧ gl (er j) = gl2 (er2 j)) → sC gl sp er n f = sC gl2 sp2 er2 n f
  | 0, _ => rfl
  | n + 1, h => by
    obtain ⟨a, b, c⟩ := h n (by omega)
    rw [sC, sC, sC_cg (n := n) (fun j hj => h j (by omega)), a, c, b]
theorem mMov.cg {σ : vm_M} {o b : Nat} {v w : vm_V} (h : mMov σ o b v) (hn : V_n v = V_n w) (hf : V_fin v = V_fin w) (hw : ∀ p, p < V_n v → V_wy v p = V_wy w p ∧ V_sp v p = V_sp w p ∧ V_er v p = V_er w p) : mMov σ o b w := by
  obtain ⟨h1, h2, h3, h4⟩ := h
  refine ⟨h1.trans hf, ?_, fun p hp => ?_, h4⟩
  · rw [h2, ← hn, wM_congr (fun p hp => (hw p hp).1)]
  · rw [← hn] at hp
    obtain ⟨-, a, b⟩ := hw p hp
    obtain ⟨c, d⟩ := h3 p hp
    exact ⟨c.trans a, d.trans (congrArg nI b)⟩
theorem mRd.of {σ : vm_M} {T : vm_T} (hM : MInv σ T) (hI : SInv T) : mRd σ (T_tl T) (T_tb T) := ⟨hM.2.1.1, hI.2.2.2.2.2.2.2.1, fun j hj => ⟨hM.2.1.2 j hj, hI.2.2.2.2.2.2.2.2.1 j hj⟩⟩
theorem MInv.read {σ σ' : vm_M} {T T' : vm_T} (h : MInv σ T) (hI : SInv T) (e1 : T_rl T' = T_rl T ∧ T_rn T' = T_rn T ∧ T_ri T' = T_ri T) (e2 : T_im T' = T_im T ∧ T_iv T' = T_iv T) (e3 : T_tn T' = T_tn T ∧ T_tr T' = T_tr T) (e4 : T_fnd T' = T_fnd T) (e5 : T_tl T' = 0) (hf : ∀ o, o ≠ 202 → o ≠ 203 → o ≠ 210 → σ' o = σ o) (h2 : σ' 202 4 = nI 0) (h11 : σ' 202 11 = σ 202 11) (h6 : σ' 202 6 = σ 202 6) (h203 : ∀ k, 31 ≤ k → k < 93 → σ' 203 k = σ 203 k)
    (hn : σ' 203 0 = bI (T_hp T') ∧ mSec σ' 0 (T_nw T')) (hp : mPast σ' (T_pl T') (T_pv T')) (h5 : σ' 202 5 = T_flt T') : MInv σ' T' := by
  obtain ⟨g1, g2, g3, g4, g5, g6, g7, g8⟩ := h
  refine ⟨?_, ⟨by rw [e5]; exact h2, fun k hk => by rw [e5] at hk; exact absurd hk (Nat.not_lt_zero _)⟩, hn, hp, ?_, ⟨?_, ?_⟩, h5, by rw [h6, e4]; exact g8⟩
  · rw [e1.1, e1.2.1, e1.2.2]
    unfold mRows
    rw [hf 206 (by omega) (by omega) (by omega), hf 207 (by omega) (by omega) (by omega), hf 208 (by omega) (by omega) (by omega)]
    exact g1
  · rw [e2.1, e2.2]
    intro k hk
    obtain ⟨a1, a2⟩ := g5 k hk
    exact ⟨(h203 _ (by omega) (by omega)).trans a1, fun z => (a2 z).mv (hI.2.2.2.2.2.1 k hk z).1.1.1 _ (fun j _ hj => h203 _ (by omega) (by omega))⟩
  · rw [e3.1, h11]; exact g6.1
  · rw [e3.1, e3.2, hf 209 (by omega) (by omega) (by omega)]; exact g6.2
set_option maxHeartbeats 1000000 in
set_option maxRecDepth 100000 in
theorem m_path {G : vm_G} {σ : vm_M} {T : vm_T} (hM : MInv σ T) (hI : SInv T) : vm_RI G 6 mX8_path [.ref 202] σ (fun r σ' => (∀ T' r', pathR T T' r' → r = r' ∧ MInv σ' T') ∧ ∀ o, o < 202 → σ' o = σ o) := by
  refine vm_int (y := mX8_path) (by decide) (Nat.le_of_ble_eq_true rfl) (ls0 := [some (.ref 202), none, none, none]) rfl rfl (fun C F K => ?_)
  have F : vm_F G C cX8_path RX8 4 _ := F
  show vm_Ex G C 4 0 [some (.ref 202), none, none, none] [] _
  obtain ⟨hR, hTp, ⟨hHp, hS⟩, hPs, hIm, hTr, hFl, hFn⟩ := id hM
  have hX := hS.1
  have hM2 : mMov σ 203 (0 + 5) (T_nw T) := hS.2.2
  have hG := hI.1
  have hOk := hG.1
  have hn : V_n (T_nw T) ≤ 6 := hOk.1
  obtain ⟨tl, htl⟩ : ∃ tl, tl = T_tl T := ⟨_, rfl⟩
  obtain ⟨tb, htb⟩ : ∃ tb, tb = T_tb T := ⟨_, rfl⟩
  have hT := mRd.of hM hI
  unfold pathR at K
  rw [← htl, ← htb] at hT K
  refine q_aload_n F 0 dX8_path_0 rfl rfl ?_
  refine iX8_134 F dX8_path_1 (m_readsAll hT) (by decide) sh_202 rfl rfl (Nat.le_of_ble_eq_true rfl) (fun v_1 σ_1 h_1 => ?_)
  obtain ⟨x, t, n, hRd, w1, y1, n1⟩ := h_1
  obtain rfl := w1.symm
  refine q_istore_n1 F dX8_path_4 (by decide) rfl ?_
  refine q_aload_n F 0 dX8_path_5 rfl rfl ?_
  refine gX8_75 F dX8_path_6 sh_202 rfl ?_
  refine q_istore_n2 F dX8_path_9 (by decide) rfl ?_
  refine q_aload_n F 0 dX8_path_10 rfl rfl ?_
  refine q_iconst F (nI 0) dX8_path_11 (by decide) ?_
  refine pX8_66 F dX8_path_12 sh_202 rfl ⟨rfl, rfl⟩ ?_
  refine q_iload_n F 1 dX8_path_15 rfl rfl ?_
  refine b_ne F 24 dX8_path_16 (by decide) (fun c_16 => ?_) (fun c_16 => ?_)
  · have c_16 := of_decide_eq_true c_16
    subst c_16
    have c_16 : (0 : Nat) = 0 := rfl
    refine q_aload_n F 0 dX8_path_24 rfl rfl ?_
    refine gX8_7 F dX8_path_25 sh_202 rfl ?_
    refine q_iconst F (nI 0) dX8_path_28 (by decide) ?_
    refine q_iconst F (nI 1) dX8_path_29 (by decide) ?_
    refine q_iast F dX8_path_30 sh_203 (by omega) (by decide) ?_
    refine q_aload_n F 0 dX8_path_31 rfl rfl ?_
    refine gX8_7 F dX8_path_32 sh_202 rfl ?_
    refine q_iconst F (nI 1) dX8_path_35 (by decide) ?_
    refine q_aload_n F 0 dX8_path_36 rfl rfl ?_
    refine gX8_105 F dX8_path_37 sh_202 rfl ?_
    refine q_top (.int (nI (2 * qV tl tb 1))) (congrArg Value.int (by rw [vm_upd_n _ _ _ (by omega), vm_upd_k _ _ _ (by omega)]; exact (y1 c_16).2.2.1)) ?_
    refine q_iast F dX8_path_40 sh_203 (by omega) (by decide) ?_
    refine q_aload_n F 0 dX8_path_41 rfl rfl ?_
    refine gX8_7 F dX8_path_42 sh_202 rfl ?_
    refine q_iconst F (nI 2) dX8_path_45 (by decide) ?_
    refine q_aload_n F 0 dX8_path_46 rfl rfl ?_
    refine gX8_108 F dX8_path_47 sh_202 rfl ?_
    refine q_top (.int (nI (qV tl tb 2))) (congrArg Value.int (by rw [vm_upd_n _ _ _ (by omega), vm_upd_n _ _ _ (by omega), vm_upd_k _ _ _ (by omega)]; exact (y1 c_16).2.2.2.1)) ?_
    refine q_iast F dX8_path_50 sh_203 (by omega) (by decide) ?_
    refine q_aload_n F 0 dX8_path_51 rfl rfl ?_
    refine gX8_7 F dX8_path_52 sh_202 rfl ?_
    refine q_iconst F (nI 3) dX8_path_55 (by decide) ?_
    refine q_aload_n F 0 dX8_path_56 rfl rfl ?_
    refine gX8_114 F dX8_path_57 sh_202 rfl ?_
    refine q_top (.int (nI n)) (congrArg Value.int (by rw [vm_upd_n _ _ _ (by omega), vm_upd_n _ _ _ (by omega), vm_upd_n _ _ _ (by omega), vm_upd_k _ _ _ (by omega)]; exact (y1 c_16).2.1)) ?_
    refine q_iast F dX8_path_60 sh_203 (by omega) (by decide) ?_
    refine q_aload_n F 0 dX8_path_61 rfl rfl ?_
    refine gX8_7 F dX8_path_62 sh_202 rfl ?_
    refine q_iconst F (nI 4) dX8_path_65 (by decide) ?_
    refine q_iconst F (nI 0) dX8_path_66 (by decide) ?_
    refine q_iast F dX8_path_67 sh_203 (by omega) (by decide) ?_
    refine q_aload_n F 0 dX8_path_68 rfl rfl ?_
    refine gX8_7 F dX8_path_69 sh_202 rfl ?_
    refine q_iconst F (nI 5) dX8_path_72 (by decide) ?_
    refine q_iconst F (nI 0) dX8_path_73 (by decide) ?_
    refine q_iast F dX8_path_74 sh_203 (by omega) (by decide) ?_
    refine q_aload_n F 0 dX8_path_75 rfl rfl ?_
    refine gX8_7 F dX8_path_76 sh_202 rfl ?_
    refine q_bipush F (nI 6) dX8_path_79 (by decide) ?_
    refine q_iconst F (nI 0) dX8_path_81 (by decide) ?_
    refine q_iast F dX8_path_82 sh_203 (by omega) (by decide) ?_
    refine q_iconst F (nI 0) dX8_path_83 (by decide) ?_
    refine q_istore_n3 F dX8_path_84 (by decide) rfl ?_
    obtain ⟨hn, y18, y15, y16, tP0, y5, yF⟩ := y1 c_16
    obtain ⟨τ, hτ⟩ : ∃ τ, τ = (vm_upd (vm_upd (vm_upd (vm_upd (vm_upd (vm_upd (vm_upd (vm_upd σ_1 202 4 (nI 0)) 203 0 (nI 1)) 203 1 (nI (2 * qV tl tb 1))) 203 2 (nI (qV tl tb 2))) 203 3 (nI n)) 203 4 (nI 0)) 203 5 (nI 0)) 203 6 (nI 0)) := ⟨_, rfl⟩
    have tN : ∀ o, o ≠ 203 → τ o = vm_upd σ_1 202 4 (nI 0) o := fun o ho => by rw [hτ, vm_upd_n _ _ _ ho, vm_upd_n _ _ _ ho, vm_upd_n _ _ _ ho, vm_upd_n _ _ _ ho, vm_upd_n _ _ _ ho, vm_upd_n _ _ _ ho, vm_upd_n _ _ _ ho]
    have t18 : τ 202 18 = nI n := by rw [tN 202 (by omega), vm_upd_k _ _ _ (by omega)]; exact y18
    have t4 : τ 202 4 = nI 0 := by rw [tN 202 (by omega)]; simp [vm_upd, upd]
    have t12 : ∀ k, k < 12 → k ≠ 5 → k ≠ 4 → τ 202 k = σ 202 k := fun k a b c => by rw [tN 202 (by omega), vm_upd_k _ _ _ c]; exact yF.2 k a b
    have t5 : τ 202 5 = σ 202 5 := by rw [tN 202 (by omega), vm_upd_k _ _ _ (by omega)]; exact y5
    have tF : ∀ o, o ≠ 202 → o ≠ 203 → o ≠ 210 → τ o = σ o := fun o a b c => by rw [tN o b, vm_upd_n _ _ _ a]; exact yF.1 o a c
    have tP : mRP τ tl tb n := tP0.fr (by rw [tN 210 (by omega), vm_upd_n _ _ _ (by omega)])
    have t203 : ∀ z, 7 ≤ z → τ 203 z = σ 203 z := fun z hz => by rw [hτ, vm_upd_k _ _ _ (by omega), vm_upd_k _ _ _ (by omega), vm_upd_k _ _ _ (by omega), vm_upd_k _ _ _ (by omega), vm_upd_k _ _ _ (by omega), vm_upd_k _ _ _ (by omega), vm_upd_k _ _ _ (by omega), vm_upd_n _ _ _ (by omega), yF.1 203 (by omega) (by omega)]
    have h0 : τ 203 0 = nI 1 := by rw [hτ]; simp [vm_upd, upd]
    obtain ⟨fk, hfk⟩ : ∃ f : Nat → Nat, ∀ j, f j = qK tl tb (4 + 6 * j + 1) := ⟨_, fun _ => rfl⟩
    obtain ⟨fs, hfs⟩ : ∃ f : Nat → Nat, ∀ j, f j = qV tl tb (4 + 6 * j + 2) := ⟨_, fun _ => rfl⟩
    obtain ⟨fw, hfw⟩ : ∃ f : Nat → Nat, ∀ j, f j = qV tl tb (4 + 6 * j + 3) := ⟨_, fun _ => rfl⟩
    obtain ⟨fg, hfg⟩ : ∃ f : Nat → Nat, ∀ j, f j = qV tl tb (4 + 6 * j + 4) := ⟨_, fun _ => rfl⟩
    obtain ⟨tp, htp⟩ : ∃ z : Nat, z = 2 * qV tl tb 1 := ⟨_, rfl⟩
    obtain ⟨lw, hlw⟩ : ∃ z : Nat, z = qV tl tb 2 := ⟨_, rfl⟩
    have tP : ∀ j, j < n → (τ 210 (4 * j) = nI (fk j) ∧ τ 210 (4 * j + 1) = nI (fs j) ∧ τ 210 (4 * j + 2) = nI (fw j) ∧ τ 210 (4 * j + 3) = nI (fg j)) ∧ fw j ≤ 1 := fun j hj => by
      rw [hfk, hfs, hfw, hfg]
      exact ⟨(tP j hj).1, (tP j hj).2.2⟩
    have h1 : τ 203 1 = nI tp := by rw [hτ, htp]; simp [vm_upd, upd]
    have h2 : τ 203 2 = nI lw := by rw [hτ, hlw]; simp [vm_upd, upd]
    have h3 : τ 203 3 = nI n := by rw [hτ]; simp [vm_upd, upd]
    have h4 : τ 203 4 = nI 0 := by rw [hτ]; simp [vm_upd, upd]
    have hh5 : τ 203 5 = nI 0 := by rw [hτ]; simp [vm_upd, upd]
    have h6 : τ 203 6 = nI 0 := by rw [hτ]; simp [vm_upd, upd]
    rw [← hτ]
    clear hτ
    have L : ∀ x1 x2 : Int32, ∀ k i, i + k = n → ∀ (σ2 : vm_M), (∀ j, j < i → σ2 203 (19 + j) = nI (fk j) ∧ σ2 203 (7 + j) = nI (fs j) ∧ σ2 203 (25 + j) = nI (fg j) ∧ σ2 203 (13 + j) = nI j) → σ2 203 6 = nI (wM (fun j => decide (fw j = 1)) i) → (∀ z, (z < 6 ∨ 31 ≤ z ∨ (13 + i ≤ z ∧ z < 19)) → σ2 203 z = τ 203 z) → (∀ o, o ≠ 203 → σ2 o = τ o) → vm_Ex G C 4 85 [some (.ref 202), some (.int x1), some (.int x2), some (.int (nI i))] [] σ2 := by
      intro x1 x2 k
      induction k with
      | zero =>
        intro i hi σ2 gA gB gC gD
        refine q_iload_n F 3 dX8_path_85 rfl rfl ?_
        refine q_aload_n F 0 dX8_path_86 rfl rfl ?_
        refine gX8_114 F dX8_path_87 sh_202 rfl ?_
        refine q_top (.int (nI n)) (congrArg Value.int (by rw [gD 202 (by omega)]; exact t18)) ?_
        refine n_ge F 186 dX8_path_90 (by decide) (by omega) (by omega) (fun c_90 => ?_) (fun c_90 => ?_)
        · have hin : i = n := by omega
          subst hin
          have hX9 : mFix σ2 0 (fk, fun j => nI (fg j), fun j => nI (fs j), fun j => decide (fw j = 1), fun j => j, tp, lw, i, 0, nI 0) := ⟨(gC 1 (by omega)).trans h1, (gC 2 (by omega)).trans h2, (gC 3 (by omega)).trans h3, fun p hp => by
            obtain ⟨a1, a2, a3, a4⟩ := gA p hp
            rw [show 0 + 19 + p = 19 + p by omega, show 0 + 25 + p = 25 + p by omega]
            exact ⟨a1, a3⟩⟩
          have hM8 : mMov σ2 203 (0 + 5) (fk, fun j => nI (fg j), fun j => nI (fs j), fun j => decide (fw j = 1), fun j => j, tp, lw, i, 0, nI 0) := by
            refine ⟨(gC 5 (by omega)).trans hh5, gB, fun p hp => ?_, ?_⟩
            · obtain ⟨a1, a2, a3, a4⟩ := gA p hp
              rw [show 0 + 5 + 2 + p = 7 + p by omega, show 0 + 5 + 8 + p = 13 + p by omega]
              exact ⟨a2, a4⟩
            · by_cases hi0 : i = 0
              · subst hi0
                obtain ⟨-, -, -, z, hz, ez⟩ := hM2
                refine ⟨z, hz, ?_⟩
                rw [show 0 + 5 + 8 + z = 13 + z by omega] at ez ⊢
                rw [gC _ (by omega), t203 _ (by omega)]
                exact ez
              · refine ⟨0, by omega, ?_⟩
                exact (gA 0 (by omega)).2.2.2
          refine q_aload_n F 0 dX8_path_186 rfl rfl ?_
          refine q_iconst F (nI 0) dX8_path_187 (by decide) ?_
          refine iX8_138 F dX8_path_188 (m_layDone hX9 hM8 (Or.inl rfl) hn (fun j hj => hj)) (by decide) sh_202 rfl rfl (Nat.le_of_ble_eq_true rfl) (fun σ_188 h_188 => ?_)
          obtain ⟨hM9, hf9⟩ := h_188
          refine q_aload_n F 0 dX8_path_191 rfl rfl ?_
          refine q_iconst F (nI 0) dX8_path_192 (by decide) ?_
          refine pX8_142 F dX8_path_193 sh_202 rfl ⟨rfl, rfl⟩ ?_
          refine q_aload_n F 0 dX8_path_196 rfl rfl ?_
          refine gX8_114 F dX8_path_197 sh_202 rfl ?_
          refine q_top (.int (nI i)) (congrArg Value.int (by rw [vm_upd_k _ _ _ (by omega), hf9.1 202 (by omega), gD 202 (by omega)]; exact t18)) ?_
          refine K _ _ _ _ ?_ dX8_path_200 rfl
          refine ⟨fun T' r' hp => ?_, fun o ho => by rw [vm_upd_n _ _ _ (by omega), hf9.1 o (by omega), gD o (by omega)]; exact tF o (by omega) (by omega) (by omega)⟩
          rcases hp with ⟨-, w, hw, hn6, hk6, rfl, rfl⟩ | ⟨q1, -, -⟩
          · obtain ⟨kd, gl, sp, wy, er, top, law, n', gn, fin⟩ := w
            obtain ⟨v1, v2, v3, v4, v5, -, -, -, v9⟩ := hw
            have v1 : top = 2 * qV tl tb 1 := v1
            have v2 : law = qV tl tb 2 := v2
            have v3 : n' = (rRead tl tb).2.2 := v3
            have v4 : gn = 0 := v4
            have v5 : fin = 0 := v5
            rw [hRd] at v3 v9 ⊢
            dsimp only at v3 v9 ⊢
            have v1 := v1.trans htp.symm
            have v2 := v2.trans hlw.symm
            have u : ∀ z, (z < 5 ∨ 18 < z) → vm_upd σ_188 202 2 (nI 0) 203 z = σ2 203 z := fun z hz => by rw [vm_upd_n _ _ _ (by omega)]; exact hf9.2 z (by omega)
            have e9 : ∀ k, k ≠ 2 → vm_upd σ_188 202 2 (nI 0) 202 k = τ 202 k := fun k hk => by rw [vm_upd_k _ _ _ hk, hf9.1 202 (by omega), gD 202 (by omega)]
            refine ⟨rfl, hM.read hI ⟨rfl, rfl, rfl⟩ ⟨rfl, rfl⟩ ⟨rfl, rfl⟩ rfl rfl (fun o a b c => by rw [vm_upd_n _ _ _ a, hf9.1 o b, gD o b]; exact tF o a b c) ((e9 4 (by omega)).trans t4) ((e9 11 (by omega)).trans (t12 11 (by omega) (by omega) (by omega))) ((e9 6 (by omega)).trans (t12 6 (by omega) (by omega) (by omega))) (fun k hk _ => by rw [u k (by omega), gC k (by omega)]; exact t203 k (by omega)) ⟨?_, ⟨?_, ?_, ?_, fun p hp => ?_⟩, ?_, ?_⟩ ⟨by simp [vm_upd, upd], fun i hi => absurd hi (Nat.not_lt_zero _)⟩ ((e9 5 (by omega)).trans (t5.trans hFl))⟩
            · rw [u 0 (by omega), gC 0 (by omega), h0]; rfl
            · rw [u _ (by omega), gC _ (by omega)]; exact h1.trans (congrArg nI v1.symm)
            · rw [u _ (by omega), gC _ (by omega)]; exact h2.trans (congrArg nI v2.symm)
            · rw [u _ (by omega), gC _ (by omega)]; exact h3.trans (congrArg nI v3.symm)
            · have hp9 : p < n' := hp
              have hp : p < i := by omega
              obtain ⟨a1, a2, a3, a4⟩ := gA p hp
              obtain ⟨b1, b2, b3, b4, b5, -⟩ := v9 p hp
              rw [u _ (by omega), u _ (by omega), show 0 + 19 + p = 19 + p by omega, show 0 + 25 + p = 25 + p by omega, a1, a3]
              exact ⟨congrArg nI ((hfk p).trans b1.symm), (congrArg nI (hfg p)).trans b4.symm⟩
            · rw [u _ (by omega), gC _ (by omega)]; exact h4.trans (congrArg nI v4.symm)
            · have hm : mMov (vm_upd σ_188 202 2 (nI 0)) 203 (0 + 5) (fk, fun j => nI (fg j), fun j => nI (fs j), fun j => decide (fw j = 1), fun j => j, tp, lw, i, 0, (sC (fun j => nI (fg j)) (fun j => nI (fs j)) (fun j => j) i (nI 0))) := hM9.fr hn 203 (fun k hk => by rw [vm_upd_n _ _ _ (by omega)])
              refine hm.cg v3.symm ?_ (fun p hp => ?_)
              · show sC _ _ _ i (nI 0) = sC gl sp er n' fin
                rw [nI_0, v5, v3]
                refine sC_cg (fun j hj => ?_)
                obtain ⟨b1, b2, b3, b4, b5, -⟩ := v9 j hj
                exact ⟨(congrArg nI (hfs j)).trans b2.symm, b5.symm, by rw [show er j = j from b5]; exact (congrArg nI (hfg j)).trans b4.symm⟩
              · have hp : p < i := hp
                obtain ⟨b1, b2, b3, b4, b5, -⟩ := v9 p hp
                refine ⟨?_, (congrArg nI (hfs p)).trans b2.symm, b5.symm⟩
                show decide (fw p = 1) = wy p
                rw [show wy p = _ from b3, hfw]
          · rw [hRd] at q1
            exact absurd rfl q1
        · omega
      | succ k ih =>
        intro i hi σ2 gA gB gC gD
        refine q_iload_n F 3 dX8_path_85 rfl rfl ?_
        refine q_aload_n F 0 dX8_path_86 rfl rfl ?_
        refine gX8_114 F dX8_path_87 sh_202 rfl ?_
        refine q_top (.int (nI n)) (congrArg Value.int (by rw [gD 202 (by omega)]; exact t18)) ?_
        refine n_ge F 186 dX8_path_90 (by decide) (by omega) (by omega) (fun c_90 => ?_) (fun c_90 => ?_)
        · omega
        · refine q_aload_n F 0 dX8_path_93 rfl rfl ?_
          refine gX8_7 F dX8_path_94 sh_202 rfl ?_
          refine q_bipush F (nI 19) dX8_path_97 (by decide) ?_
          refine q_iload_n F 3 dX8_path_99 rfl rfl ?_
          refine n_iadd F dX8_path_100 ?_
          refine q_aload_n F 0 dX8_path_101 rfl rfl ?_
          refine gX8_32 F dX8_path_102 sh_202 rfl ?_
          refine q_iconst F (nI 4) dX8_path_105 (by decide) ?_
          refine q_iload_n F 3 dX8_path_106 rfl rfl ?_
          refine n_imul F dX8_path_107 ?_
          refine q_iald F dX8_path_108 sh_210 (by omega) (by decide) ?_
          refine q_top (.int (nI (fk i))) (congrArg Value.int (by rw [gD 210 (by omega)]; exact (tP i (by omega)).1.1)) ?_
          refine q_iast F dX8_path_109 sh_203 (by omega) (by decide) ?_
          refine q_aload_n F 0 dX8_path_110 rfl rfl ?_
          refine gX8_7 F dX8_path_111 sh_202 rfl ?_
          refine q_bipush F (nI 7) dX8_path_114 (by decide) ?_
          refine q_iload_n F 3 dX8_path_116 rfl rfl ?_
          refine n_iadd F dX8_path_117 ?_
          refine q_aload_n F 0 dX8_path_118 rfl rfl ?_
          refine gX8_32 F dX8_path_119 sh_202 rfl ?_
          refine q_iconst F (nI 4) dX8_path_122 (by decide) ?_
          refine q_iload_n F 3 dX8_path_123 rfl rfl ?_
          refine n_imul F dX8_path_124 ?_
          refine q_iconst F (nI 1) dX8_path_125 (by decide) ?_
          refine n_iadd F dX8_path_126 ?_
          refine q_iald F dX8_path_127 sh_210 (by omega) (by decide) ?_
          refine q_top (.int (nI (fs i))) (congrArg Value.int (by rw [vm_upd_n _ _ _ (by omega), gD 210 (by omega)]; exact (tP i (by omega)).1.2.1)) ?_
          refine q_iast F dX8_path_128 sh_203 (by omega) (by decide) ?_
          refine q_aload_n F 0 dX8_path_129 rfl rfl ?_
          refine gX8_7 F dX8_path_130 sh_202 rfl ?_
          refine q_bipush F (nI 6) dX8_path_133 (by decide) ?_
          refine q_dup2 F dX8_path_135 rfl rfl ?_
          refine q_iald F dX8_path_136 sh_203 (by omega) (by decide) ?_
          refine q_top (.int (nI (wM (fun j => decide (fw j = 1)) i))) (congrArg Value.int (by rw [vm_upd_k _ _ _ (by omega), vm_upd_k _ _ _ (by omega)]; exact gB)) ?_
          refine q_aload_n F 0 dX8_path_137 rfl rfl ?_
          refine gX8_32 F dX8_path_138 sh_202 rfl ?_
          refine q_iconst F (nI 4) dX8_path_141 (by decide) ?_
          refine q_iload_n F 3 dX8_path_142 rfl rfl ?_
          refine n_imul F dX8_path_143 ?_
          refine q_iconst F (nI 2) dX8_path_144 (by decide) ?_
          refine n_iadd F dX8_path_145 ?_
          refine q_iald F dX8_path_146 sh_210 (by omega) (by decide) ?_
          refine q_top (.int (nI (fw i))) (congrArg Value.int (by rw [vm_upd_n _ _ _ (by omega), vm_upd_n _ _ _ (by omega), gD 210 (by omega)]; exact (tP i (by omega)).1.2.2.1)) ?_
          refine q_iload_n F 3 dX8_path_147 rfl rfl ?_
          refine q_ishl F dX8_path_148 ?_
          refine q_ior F dX8_path_149 ?_
          refine q_top (.int (nI (wM (fun j => decide (fw j = 1)) (i + 1)))) (congrArg Value.int (wM_way (by omega) (tP i (by omega)).2)) ?_
          refine q_iast F dX8_path_150 sh_203 (by omega) (by decide) ?_
          refine q_aload_n F 0 dX8_path_151 rfl rfl ?_
          refine gX8_7 F dX8_path_152 sh_202 rfl ?_
          refine q_bipush F (nI 25) dX8_path_155 (by decide) ?_
          refine q_iload_n F 3 dX8_path_157 rfl rfl ?_
          refine n_iadd F dX8_path_158 ?_
          refine q_aload_n F 0 dX8_path_159 rfl rfl ?_
          refine gX8_32 F dX8_path_160 sh_202 rfl ?_
          refine q_iconst F (nI 4) dX8_path_163 (by decide) ?_
          refine q_iload_n F 3 dX8_path_164 rfl rfl ?_
          refine n_imul F dX8_path_165 ?_
          refine q_iconst F (nI 3) dX8_path_166 (by decide) ?_
          refine n_iadd F dX8_path_167 ?_
          refine q_iald F dX8_path_168 sh_210 (by omega) (by decide) ?_
          refine q_top (.int (nI (fg i))) (congrArg Value.int (by rw [vm_upd_n _ _ _ (by omega), vm_upd_n _ _ _ (by omega), vm_upd_n _ _ _ (by omega), gD 210 (by omega)]; exact (tP i (by omega)).1.2.2.2)) ?_
          refine q_iast F dX8_path_169 sh_203 (by omega) (by decide) ?_
          refine q_aload_n F 0 dX8_path_170 rfl rfl ?_
          refine gX8_7 F dX8_path_171 sh_202 rfl ?_
          refine q_bipush F (nI 13) dX8_path_174 (by decide) ?_
          refine q_iload_n F 3 dX8_path_176 rfl rfl ?_
          refine n_iadd F dX8_path_177 ?_
          refine q_iload_n F 3 dX8_path_178 rfl rfl ?_
          refine q_iast F dX8_path_179 sh_203 (by omega) (by decide) ?_
          refine q_iinc3 F _ dX8_path_180 (nI_inc _) (by decide) rfl ?_
          refine q_goto F 85 dX8_path_183 (by decide) ?_
          refine ih (i + 1) (by omega) _ (fun j hj => ?_) ?_ (fun z hz => ?_) (fun o ho => by rw [vm_upd_n _ _ _ ho, vm_upd_n _ _ _ ho, vm_upd_n _ _ _ ho, vm_upd_n _ _ _ ho, vm_upd_n _ _ _ ho]; exact gD o ho)
          · by_cases ej : j = i
            · rw [ej]
              refine ⟨?_, ?_, ?_, ?_⟩
              · rw [vm_upd_k _ _ _ (by omega), vm_upd_k _ _ _ (by omega), vm_upd_k _ _ _ (by omega), vm_upd_k _ _ _ (by omega)]; simp [vm_upd, upd]
              · rw [vm_upd_k _ _ _ (by omega), vm_upd_k _ _ _ (by omega), vm_upd_k _ _ _ (by omega)]; simp [vm_upd, upd]
              · rw [vm_upd_k _ _ _ (by omega)]; simp [vm_upd, upd]
              · simp [vm_upd, upd]
            · obtain ⟨a1, a2, a3, a4⟩ := gA j (by omega)
              exact ⟨(vm_upd5 (by omega) (by omega) (by omega) (by omega) (by omega)).trans a1, (vm_upd5 (by omega) (by omega) (by omega) (by omega) (by omega)).trans a2, (vm_upd5 (by omega) (by omega) (by omega) (by omega) (by omega)).trans a3, (vm_upd5 (by omega) (by omega) (by omega) (by omega) (by omega)).trans a4⟩
          · rw [vm_upd_k _ _ _ (by omega), vm_upd_k _ _ _ (by omega)]; simp [vm_upd, upd]
          · rw [vm_upd_k _ _ _ (by omega), vm_upd_k _ _ _ (by omega), vm_upd_k _ _ _ (by omega), vm_upd_k _ _ _ (by omega), vm_upd_k _ _ _ (by omega)]
            exact gC z (by omega)
    exact L _ _ n 0 (by omega) _ (fun j hj => absurd hj (Nat.not_lt_zero _)) h6 (fun _ _ => rfl) (fun _ _ => rfl)
  · have c_16 := of_decide_eq_false c_16
    refine q_ldc F dX8_path_19 wX8_137 ?_
    refine q_iload_n F 2 dX8_path_21 rfl rfl ?_
    refine q_isub F dX8_path_22 ?_
    refine K _ _ _ _ ?_ dX8_path_23 rfl
    obtain ⟨g1, g2, g3⟩ := n1 c_16
    refine ⟨fun T' r' hp => ?_, fun o ho => by rw [vm_upd_n _ _ _ (by omega)]; exact g3.1 o (by omega) (by omega)⟩
    rcases hp with ⟨q1, -⟩ | ⟨q1, rfl, rfl⟩
    · rw [hRd] at q1
      exact absurd q1 c_16
    · rw [hRd]
      refine ⟨by rw [g1], hM.read hI ⟨rfl, rfl, rfl⟩ ⟨rfl, rfl⟩ ⟨rfl, rfl⟩ rfl rfl (fun o a b c => by rw [vm_upd_n _ _ _ a]; exact g3.1 o a c) (by simp [vm_upd, upd]) (by rw [vm_upd_k _ _ _ (by omega)]; exact g3.2 11 (by omega) (by omega)) (by rw [vm_upd_k _ _ _ (by omega)]; exact g3.2 6 (by omega) (by omega)) (fun k _ _ => by rw [vm_upd_n _ _ _ (by omega), g3.1 203 (by omega) (by omega)]) ⟨?_, ?_⟩ ⟨?_, ?_⟩ (by rw [vm_upd_k _ _ _ (by omega)]; exact g2)⟩
      · rw [vm_upd_n _ _ _ (by omega), g3.1 203 (by omega) (by omega)]; exact hHp
      · unfold mSec mFix mMov at *; rw [vm_upd_n _ _ _ (show (203 : Nat) ≠ 202 by omega), g3.1 203 (by omega) (by omega)]; exact hS
      · rw [vm_upd_k _ _ _ (by omega), g3.2 2 (by omega) (by omega)]; exact hPs.1
      · unfold mMov; rw [vm_upd_n _ _ _ (show (204 : Nat) ≠ 202 by omega), g3.1 204 (by omega) (by omega)]; exact hPs.2
