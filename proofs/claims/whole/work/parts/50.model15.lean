theorem num_0 {tl k lo hi : Nat} {tb : Nat → Nat} {ev : Bool} (h : mNum tl tb k lo hi ev = 0) : lo ≤ qV tl tb k ∧ qV tl tb k ≤ hi ∧ qV tl tb k < 1000 := by
  unfold mNum at h
  split at h
  · next h1 =>
    have h2 : tTy tl tb (tQ tl tb k) = 2 := by
      rcases Nat.decEq (tTy tl tb (tQ tl tb k)) 2 with q | q
      · unfold rNum at h1; rw [if_neg q] at h1; omega
      · exact q
    rw [num_r h2] at h1
    have hv : qV tl tb k < 1000 := tok_val h2
    split at h1
    · next h3 => exact ⟨h3.1, h3.2, hv⟩
    · omega
  · next h1 => exact absurd h h1
theorem num_v {tl k lo hi : Nat} {tb : Nat → Nat} {ev : Bool} {v : Int32} (hy : mNum tl tb k lo hi ev = 0 → v = nI (qV tl tb k)) (h : v = -1000000) : mNum tl tb k lo hi ev ≠ 0 := fun z => by
  have h1 := (num_0 z).2.2
  rw [hy z] at h
  exact nI_neN (by omega) h
theorem mRd.up {σ : vm_M} {tl k : Nat} {tb : Nat → Nat} {x : Int32} (h : mRd σ tl tb) (hk : k ≠ 4) : mRd (vm_upd σ 202 k x) tl tb := by
  obtain ⟨a, b, c⟩ := h
  refine ⟨by rw [vm_upd_k _ _ _ (Ne.symm hk)]; exact a, b, ?_⟩
  rw [vm_upd_n _ _ _ (by omega)]
  exact c
theorem mRd.up2 {σ : vm_M} {tl k : Nat} {tb : Nat → Nat} {x : Int32} (h : mRd σ tl tb) : mRd (vm_upd σ 210 k x) tl tb := by
  obtain ⟨a, b, c⟩ := h
  refine ⟨by rw [vm_upd_n _ _ _ (by omega)]; exact a, b, ?_⟩
  rw [vm_upd_n _ _ _ (by omega)]
  exact c
theorem mTk.up {σ : vm_M} {tl k j : Nat} {tb : Nat → Nat} {x : Int32} (h : mTk σ tl tb j) (hk : k < 12 ∨ 14 < k) : mTk (vm_upd σ 202 k x) tl tb j := h.fr (vm_upd_k _ _ _ (by omega)) (vm_upd_k _ _ _ (by omega)) (vm_upd_k _ _ _ (by omega))
theorem mTk.up2 {σ : vm_M} {tl k j : Nat} {tb : Nat → Nat} {x : Int32} (h : mTk σ tl tb j) : mTk (vm_upd σ 210 k x) tl tb j := h.fr (by rw [vm_upd_n _ _ _ (by omega)]) (by rw [vm_upd_n _ _ _ (by omega)]) (by rw [vm_upd_n _ _ _ (by omega)])
/-- only what the reader writes has changed -/
def mFR (σ σ' : vm_M) : Prop := (∀ o, o ≠ 202 → o ≠ 210 → σ' o = σ o) ∧ ∀ k, k < 12 → k ≠ 5 → σ' 202 k = σ 202 k
theorem mFR.rf {σ : vm_M} : mFR σ σ := ⟨fun _ _ _ => rfl, fun _ _ _ => rfl⟩
theorem mFR.tr {σ σ1 σ2 : vm_M} (h : mFR σ σ1) (h2 : mFR σ1 σ2) : mFR σ σ2 := ⟨fun o a b => (h2.1 o a b).trans (h.1 o a b), fun k a b => (h2.2 k a b).trans (h.2 k a b)⟩
theorem mFT.fr {σ σ' : vm_M} (h : mFT σ σ') : mFR σ σ' := ⟨fun o a _ => h.1 o a, fun k a _ => h.2 k (by omega) (by omega) (by omega)⟩
theorem mFR.up {σ σ1 : vm_M} {k : Nat} {x : Int32} (h : mFR σ σ1) (hk : k = 5 ∨ 12 ≤ k) : mFR σ (vm_upd σ1 202 k x) := ⟨fun o a b => by rw [vm_upd_n _ _ _ a]; exact h.1 o a b, fun j a b => by rw [vm_upd_k _ _ _ (by omega)]; exact h.2 j a b⟩
theorem mFR.up2 {σ σ1 : vm_M} {k : Nat} {x : Int32} (h : mFR σ σ1) : mFR σ (vm_upd σ1 210 k x) := ⟨fun o a b => by rw [vm_upd_n _ _ _ b]; exact h.1 o a b, fun j a b => by rw [vm_upd_n _ _ _ (by omega)]; exact h.2 j a b⟩
theorem mRd.fr {σ σ' : vm_M} {tl : Nat} {tb : Nat → Nat} (h : mRd σ tl tb) (hf : mFR σ σ') : mRd σ' tl tb := by
  obtain ⟨a, b, c⟩ := h
  refine ⟨(hf.2 4 (by omega) (by omega)).trans a, b, ?_⟩
  rw [hf.1 205 (by omega) (by omega)]
  exact c
/-- the people told so far -/
def mRP (σ : vm_M) (tl : Nat) (tb : Nat → Nat) (n : Nat) : Prop := ∀ j, j < n → (σ 210 (4 * j) = nI (qK tl tb (4 + 6 * j + 1)) ∧ σ 210 (4 * j + 1) = nI (qV tl tb (4 + 6 * j + 2)) ∧ σ 210 (4 * j + 2) = nI (qV tl tb (4 + 6 * j + 3)) ∧ σ 210 (4 * j + 3) = nI (qV tl tb (4 + 6 * j + 4))) ∧ qV tl tb (4 + 6 * j + 2) ≤ 60 ∧ qV tl tb (4 + 6 * j + 3) ≤ 1
theorem mRP.fr {σ σ' : vm_M} {tl n : Nat} {tb : Nat → Nat} (h : mRP σ tl tb n) (e : σ' 210 = σ 210) : mRP σ' tl tb n := by
  unfold mRP
  rw [e]
  exact h
theorem sF_or (f : Nat → Bool) (i : Nat) : decide (sF f (i + 1) < i + 1) = (decide (sF f i < i) || f i) := by
  have hle := sF_le f i
  by_cases h : sF f i < i
  · rw [sF, if_pos h, decide_eq_true h, decide_eq_true (by omega)]
    rfl
  · rw [sF, if_neg h, decide_eq_false h, Bool.false_or]
    cases hf : f i
    · simp
    · simp
set_option maxHeartbeats 800000 in
set_option maxRecDepth 100000 in
theorem m_readsPath {G : vm_G} {σ : vm_M} {tl : Nat} {tb : Nat → Nat} (hT : mRd σ tl tb) (hk : mTk σ tl tb 0) : vm_RI G 3 mX8_readsPath [.ref 202] σ (fun r σ' => r = bI (decide ((rLane tl tb).1 = 0)) ∧ ((rLane tl tb).1 = 0 → mTk σ' tl tb 4 ∧ σ' 202 15 = nI (2 * qV tl tb 1) ∧ σ' 202 16 = nI (qV tl tb 2) ∧ qV tl tb 1 ≤ 30 ∧ σ' 202 18 = σ 202 18 ∧ σ' 202 5 = σ 202 5 ∧ mFR σ σ') ∧ ((rLane tl tb).1 ≠ 0 → σ' 202 13 = nI (tQ tl tb (rLane tl tb).2) ∧ σ' 202 5 = nI (rLane tl tb).1 ∧ mFR σ σ')) := by
  refine vm_int (y := mX8_readsPath) (by decide) (Nat.le_of_ble_eq_true rfl) (ls0 := [some (.ref 202), none]) rfl rfl (fun C F K => ?_)
  have F : vm_F G C cX8_readsPath RX8 2 _ := F
  show vm_Ex G C 2 0 [some (.ref 202), none] [] _
  refine q_aload_n F 0 dX8_readsPath_0 rfl rfl ?_
  refine q_ldc F dX8_readsPath_1 wX8_100 ?_
  refine q_iconst F (nI 4) dX8_readsPath_3 (by decide) ?_
  refine iX8_84 F dX8_readsPath_4 (m_isWord hT hk (w := 1) (ln := 4) (by decide) (by decide +kernel) (by decide) cw_1) (by decide) sh_202 rfl rfl (Nat.le_of_ble_eq_true rfl) (fun v_4 σ_4 h_4 => ?_)
  obtain ⟨h_4, g_4⟩ := h_4
  obtain rfl := h_4.symm
  obtain rfl := g_4.symm
  refine b_ne F 17 dX8_readsPath_7 (by decide) (fun c_7 => ?_) (fun c_7 => ?_)
  · refine q_aload_n F 0 dX8_readsPath_17 rfl rfl ?_
    refine iX8_93 F dX8_readsPath_18 (m_tok hT hk (k' := 1) rfl) (by decide) sh_202 rfl rfl (Nat.le_of_ble_eq_true rfl) (fun σ_18 h_18 => ?_)
    obtain ⟨hk1, f1⟩ := h_18
    have hT1 := hT.ft f1
    refine q_aload_n F 0 dX8_readsPath_21 rfl rfl ?_
    refine q_iconst F (nI 2) dX8_readsPath_22 (by decide) ?_
    refine q_bipush F (nI 30) dX8_readsPath_23 (by decide) ?_
    refine q_iconst F (nI 0) dX8_readsPath_25 (by decide) ?_
    refine q_top (.int (bI false)) (congrArg Value.int (by decide)) ?_
    refine iX8_101 F dX8_readsPath_26 (m_number hT1 hk1 (lo := 2) (hi := 30) (ev := false) (by decide) (by omega)) (by decide) sh_202 rfl rfl (Nat.le_of_ble_eq_true rfl) (fun v_26 σ_26 h_26 => ?_)
    obtain ⟨y26, n26⟩ := h_26
    refine q_istore_n1 F dX8_readsPath_29 (by decide) rfl ?_
    refine q_iload_n F 1 dX8_readsPath_30 rfl rfl ?_
    refine q_ldc F dX8_readsPath_31 wX8_19 ?_
    refine q_icmp_ne F 38 dX8_readsPath_33 (by decide) (fun c_33 => ?_) (fun c_33 => ?_)
    · have e26 := Classical.byContradiction (fun h => c_33 (n26 h).1)
      obtain ⟨w26, hk26, f26⟩ := y26 e26
      obtain rfl := w26.symm
      obtain ⟨q26a, q26b, q26c⟩ := num_0 e26
      have r26 : rNum tl tb (tQ tl tb 1) 2 30 = 0 := by rw [← num_f (k := 1)]; exact e26
      refine q_aload_n F 0 dX8_readsPath_38 rfl rfl ?_
      refine q_iconst F (nI 2) dX8_readsPath_39 (by decide) ?_
      refine q_iload_n F 1 dX8_readsPath_40 rfl rfl ?_
      refine n_imul F dX8_readsPath_41 ?_
      refine pX8_105 F dX8_readsPath_42 sh_202 rfl ⟨rfl, rfl⟩ ?_
      have hT2 := (hT1.ft f26).up (k := 15) (x := nI (2 * qV tl tb 1)) (by omega)
      have hk2 : mTk (vm_upd σ_26 202 15 (nI (2 * qV tl tb 1))) tl tb 2 := mTk.up hk26 (by omega)
      refine q_aload_n F 0 dX8_readsPath_45 rfl rfl ?_
      refine q_aload_n F 0 dX8_readsPath_46 rfl rfl ?_
      refine q_iconst F (nI 0) dX8_readsPath_47 (by decide) ?_
      refine q_iconst F (nI 2) dX8_readsPath_48 (by decide) ?_
      refine q_iconst F (nI 0) dX8_readsPath_49 (by decide) ?_
      refine q_top (.int (bI false)) (congrArg Value.int (by decide)) ?_
      refine iX8_101 F dX8_readsPath_50 (m_number hT2 hk2 (lo := 0) (hi := 2) (ev := false) (by decide) (by omega)) (by decide) sh_202 rfl rfl (Nat.le_of_ble_eq_true rfl) (fun v_50 σ_50 h_50 => ?_)
      obtain ⟨y50, n50⟩ := h_50
      refine pX8_108 F dX8_readsPath_53 sh_202 rfl ⟨rfl, rfl⟩ ?_
      refine q_aload_n F 0 dX8_readsPath_56 rfl rfl ?_
      refine gX8_108 F dX8_readsPath_57 sh_202 rfl ?_
      refine q_top (.int (v_50)) (congrArg Value.int (by simp [vm_upd, upd])) ?_
      refine q_ldc F dX8_readsPath_60 wX8_19 ?_
      refine q_icmp_eq F 76 dX8_readsPath_62 (by decide) (fun c_62 => ?_) (fun c_62 => ?_)
      · have e50 := num_v (fun z => (y50 z).1) c_62
        have s50 := (n50 e50).2
        rw [num_f] at e50 s50
        refine q_iconst F (nI 0) dX8_readsPath_76 (by decide) ?_
        refine K _ _ _ _ ?_ dX8_readsPath_77 (by decide)
        have e9 : rLane tl tb = (rNum tl tb (tQ tl tb 2) 0 2, 2) := by rw [rLane, if_pos c_7, if_pos r26, if_neg e50]
        rw [e9]
        subst s50
        exact ⟨by rw [decide_eq_false e50]; decide, fun z => absurd z e50, fun _ => ⟨by rw [vm_upd_k _ _ _ (by omega), vm_upd_k _ _ _ (by omega)]; exact hk2.2.1, by simp [vm_upd, upd], (((f1.fr.tr f26.fr).up (by omega)).up (by omega)).up (by omega)⟩⟩
      · have e50 := Classical.byContradiction (fun h => c_62 (n50 h).1)
        obtain ⟨w50, hk50, f50⟩ := y50 e50
        obtain rfl := w50.symm
        obtain ⟨q50a, q50b, q50c⟩ := num_0 e50
        have r50 : rNum tl tb (tQ tl tb 2) 0 2 = 0 := by rw [← num_f (k := 2)]; exact e50
        have hT3 := (hT2.ft f50).up (k := 16) (x := nI (qV tl tb 2)) (by omega)
        have hk3 : mTk (vm_upd σ_50 202 16 (nI (qV tl tb 2))) tl tb 3 := mTk.up hk50 (by omega)
        refine q_aload_n F 0 dX8_readsPath_65 rfl rfl ?_
        refine iX8_111 F dX8_readsPath_66 (m_readsSign hT3 hk3) (by decide) sh_202 rfl rfl (Nat.le_of_ble_eq_true rfl) (fun v_66 σ_66 h_66 => ?_)
        obtain ⟨w66, y66, n66⟩ := h_66
        obtain rfl := w66.symm
        refine b_eq F 76 dX8_readsPath_69 (by decide) (fun c_69 => ?_) (fun c_69 => ?_)
        · have c_69 := of_decide_eq_false c_69
          refine q_iconst F (nI 0) dX8_readsPath_76 (by decide) ?_
          refine K _ _ _ _ ?_ dX8_readsPath_77 (by decide)
          have e9 : rLane tl tb = (1, 3) := by rw [rLane, if_pos c_7, if_pos r26, if_pos r50, if_neg c_69]
          rw [e9]
          have s66 := n66 c_69
          subst s66
          exact ⟨by decide, fun z => absurd z (by decide), fun _ => ⟨by rw [vm_upd_k _ _ _ (by omega)]; exact hk3.2.1, by simp [vm_upd, upd], ((((f1.fr.tr f26.fr).up (by omega)).tr f50.fr).up (by omega)).up (by omega)⟩⟩
        · have c_69 := of_decide_eq_true c_69
          refine q_iconst F (nI 1) dX8_readsPath_72 (by decide) ?_
          refine q_goto F 77 dX8_readsPath_73 (by decide) ?_
          refine K _ _ _ _ ?_ dX8_readsPath_77 (by decide)
          have e9 : rLane tl tb = (0, 3) := by rw [rLane, if_pos c_7, if_pos r26, if_pos r50, if_pos c_69]
          rw [e9]
          obtain ⟨hk4, f4⟩ := y66 c_69
          refine ⟨by decide, fun _ => ⟨hk4, ?_, ?_, q26b, ?_, ?_, ((((f1.fr.tr f26.fr).up (by omega)).tr f50.fr).up (by omega)).tr f4.fr⟩, fun z => absurd rfl z⟩
          · rw [f4.2 15 (by omega) (by omega) (by omega), vm_upd_k _ _ _ (by omega), f50.2 15 (by omega) (by omega) (by omega)]; simp [vm_upd, upd]
          · rw [f4.2 16 (by omega) (by omega) (by omega)]; simp [vm_upd, upd]
          · rw [f4.2 18 (by omega) (by omega) (by omega), vm_upd_k _ _ _ (by omega), f50.2 18 (by omega) (by omega) (by omega), vm_upd_k _ _ _ (by omega), f26.2 18 (by omega) (by omega) (by omega), f1.2 18 (by omega) (by omega) (by omega)]
          · rw [f4.2 5 (by omega) (by omega) (by omega), vm_upd_k _ _ _ (by omega), f50.2 5 (by omega) (by omega) (by omega), vm_upd_k _ _ _ (by omega), f26.2 5 (by omega) (by omega) (by omega), f1.2 5 (by omega) (by omega) (by omega)]
    · have e26 := num_v (fun z => (y26 z).1) c_33
      have s26 := (n26 e26).2
      rw [num_f] at e26 s26
      refine q_iconst F (nI 0) dX8_readsPath_36 (by decide) ?_
      refine K _ _ _ _ ?_ dX8_readsPath_37 (by decide)
      have e9 : rLane tl tb = (rNum tl tb (tQ tl tb 1) 2 30, 1) := by rw [rLane, if_pos c_7, if_neg e26]
      rw [e9]
      subst s26
      exact ⟨by rw [decide_eq_false e26]; decide, fun z => absurd z e26, fun _ => ⟨by rw [vm_upd_k _ _ _ (by omega)]; exact hk1.2.1, by simp [vm_upd, upd], f1.fr.up (by omega)⟩⟩
  · refine q_aload_n F 0 dX8_readsPath_10 rfl rfl ?_
    refine q_iconst F (nI 1) dX8_readsPath_11 (by decide) ?_
    refine pX8_90 F dX8_readsPath_12 sh_202 rfl ⟨rfl, rfl⟩ ?_
    refine q_iconst F (nI 0) dX8_readsPath_15 (by decide) ?_
    refine K _ _ _ _ ?_ dX8_readsPath_16 (by decide)
    have e9 : rLane tl tb = (1, 0) := by rw [rLane, if_neg (by simp [c_7])]
    rw [e9]
    exact ⟨by decide, fun z => absurd z (by decide), fun _ => ⟨by rw [vm_upd_k _ _ _ (by omega)]; exact hk.2.1, by simp [vm_upd, upd], mFR.rf.up (by omega)⟩⟩
set_option maxHeartbeats 800000 in
set_option maxRecDepth 100000 in
theorem m_isTaken {G : vm_G} {σ : vm_M} {tl n s : Nat} {tb : Nat → Nat} (hn : σ 202 18 = nI n) (hn6 : n ≤ 6) (hP : mRP σ tl tb n) (hs : s < 2 ^ 31) : vm_RI G 0 mX8_isTaken [.ref 202, .int (nI s)] σ (fun r σ' => r = bI (decide (sF (fun j => decide (qV tl tb (4 + 6 * j + 2) = s)) n < n)) ∧ σ' = σ) := by
  refine vm_int (y := mX8_isTaken) (by decide) (Nat.le_of_ble_eq_true rfl) (ls0 := [some (.ref 202), some (.int (nI s)), none, none]) rfl rfl (fun C F K => ?_)
  have F : vm_F G C cX8_isTaken RX8 4 _ := F
  show vm_Ex G C 4 0 [some (.ref 202), some (.int (nI s)), none, none] [] _
  have L : ∀ k i, i + k = n → vm_Ex G C 4 4 [some (.ref 202), some (.int (nI s)), some (.int (bI (decide (sF (fun j => decide (qV tl tb (4 + 6 * j + 2) = s)) i < i)))), some (.int (nI i))] [] σ := by
    intro k
    induction k with
    | zero =>
      intro i hi
      refine q_iload_n F 3 dX8_isTaken_4 rfl rfl ?_
      refine q_aload_n F 0 dX8_isTaken_5 rfl rfl ?_
      refine gX8_114 F dX8_isTaken_6 sh_202 rfl ?_
      refine q_top (.int (nI n)) (congrArg Value.int (hn)) ?_
      refine n_ge F 42 dX8_isTaken_9 (by decide) (by omega) (by omega) (fun c_9 => ?_) (fun c_9 => ?_)
      · refine q_iload_n F 2 dX8_isTaken_42 rfl rfl ?_
        refine K _ _ _ _ ?_ dX8_isTaken_43 (nI_bool _)
        rw [show i = n by omega]
        exact ⟨rfl, rfl⟩
      · omega
    | succ k ih =>
      intro i hi
      refine q_iload_n F 3 dX8_isTaken_4 rfl rfl ?_
      refine q_aload_n F 0 dX8_isTaken_5 rfl rfl ?_
      refine gX8_114 F dX8_isTaken_6 sh_202 rfl ?_
      refine q_top (.int (nI n)) (congrArg Value.int (hn)) ?_
      refine n_ge F 42 dX8_isTaken_9 (by decide) (by omega) (by omega) (fun c_9 => ?_) (fun c_9 => ?_)
      · omega
      · refine q_iload_n F 2 dX8_isTaken_12 rfl rfl ?_
        refine b_ne F 30 dX8_isTaken_13 (by decide) (fun c_13 => ?_) (fun c_13 => ?_)
        · refine q_iconst F (nI 1) dX8_isTaken_30 (by decide) ?_
          refine q_goto F 35 dX8_isTaken_31 (by decide) ?_
          refine q_istore_n2 F dX8_isTaken_35 (by decide) rfl ?_
          refine q_iinc3 F _ dX8_isTaken_36 (nI_inc _) (by decide) rfl ?_
          refine q_goto F 4 dX8_isTaken_39 (by decide) ?_
          have hh := ih (i + 1) (by omega)
          rw [sF_or, c_13] at hh
          exact hh
        · have hq60 := (hP i (by omega)).2.1
          refine q_aload_n F 0 dX8_isTaken_16 rfl rfl ?_
          refine gX8_32 F dX8_isTaken_17 sh_202 rfl ?_
          refine q_iconst F (nI 4) dX8_isTaken_20 (by decide) ?_
          refine q_iload_n F 3 dX8_isTaken_21 rfl rfl ?_
          refine n_imul F dX8_isTaken_22 ?_
          refine q_iconst F (nI 1) dX8_isTaken_23 (by decide) ?_
          refine n_iadd F dX8_isTaken_24 ?_
          refine q_iald F dX8_isTaken_25 sh_210 (by omega) (by decide) ?_
          refine q_top (.int (nI (qV tl tb (4 + 6 * i + 2)))) (congrArg Value.int ((hP i (by omega)).1.2.1)) ?_
          refine q_iload_n F 1 dX8_isTaken_26 rfl rfl ?_
          refine n_ne F 34 dX8_isTaken_27 (by decide) (by omega) (by omega) (fun c_27 => ?_) (fun c_27 => ?_)
          · refine q_iconst F (nI 0) dX8_isTaken_34 (by decide) ?_
            refine q_istore_n2 F dX8_isTaken_35 (by decide) rfl ?_
            refine q_iinc3 F _ dX8_isTaken_36 (nI_inc _) (by decide) rfl ?_
            refine q_goto F 4 dX8_isTaken_39 (by decide) ?_
            have hh := ih (i + 1) (by omega)
            rw [sF_or, c_13, Bool.false_or, decide_eq_false c_27] at hh
            exact hh
          · refine q_iconst F (nI 1) dX8_isTaken_30 (by decide) ?_
            refine q_goto F 35 dX8_isTaken_31 (by decide) ?_
            refine q_istore_n2 F dX8_isTaken_35 (by decide) rfl ?_
            refine q_iinc3 F _ dX8_isTaken_36 (nI_inc _) (by decide) rfl ?_
            refine q_goto F 4 dX8_isTaken_39 (by decide) ?_
            have hh := ih (i + 1) (by omega)
            rw [sF_or, c_13, Bool.false_or, decide_eq_true c_27] at hh
            exact hh
  refine q_iconst F (nI 0) dX8_isTaken_0 (by decide) ?_
  refine q_istore_n2 F dX8_isTaken_1 (by decide) rfl ?_
  refine q_iconst F (nI 0) dX8_isTaken_2 (by decide) ?_
  refine q_istore_n3 F dX8_isTaken_3 (by decide) rfl ?_
  exact L n 0 (by omega)
set_option maxHeartbeats 800000 in
set_option maxRecDepth 100000 in
theorem m_spotHere {G : vm_G} {σ : vm_M} {tl : Nat} {tb : Nat → Nat} (hT : mRd σ tl tb) {k : Nat} (hk : mTk σ tl tb k) {n L : Nat} (hL : σ 202 15 = nI L) (hL60 : L ≤ 60) (hn : σ 202 18 = nI n) (hn6 : n ≤ 6) (hP : mRP σ tl tb n) : vm_RI G 3 mX8_spotHere [.ref 202] σ (fun r σ' => ((rSpt tl tb (tQ tl tb k) L = 0 ∧ ¬ sF (fun j => decide (qV tl tb (4 + 6 * j + 2) = qV tl tb k)) n < n) → r = nI (qV tl tb k) ∧ mTk σ' tl tb (k + 1) ∧ mFT σ σ' ∧ qV tl tb k ≤ L) ∧ (¬ (rSpt tl tb (tQ tl tb k) L = 0 ∧ ¬ sF (fun j => decide (qV tl tb (4 + 6 * j + 2) = qV tl tb k)) n < n) → r = -1000000 ∧ σ' 202 13 = nI (tQ tl tb k) ∧ σ' 202 5 = nI (if rSpt tl tb (tQ tl tb k) L = 0 then 2 else rSpt tl tb (tQ tl tb k) L) ∧ mFR σ σ')) := by
  refine vm_int (y := mX8_spotHere) (by decide) (Nat.le_of_ble_eq_true rfl) (ls0 := [some (.ref 202), none, none, none, none]) rfl rfl (fun C F K => ?_)
  have F : vm_F G C cX8_spotHere RX8 5 _ := F
  show vm_Ex G C 5 0 [some (.ref 202), none, none, none, none] [] _
  refine q_aload_n F 0 dX8_spotHere_0 rfl rfl ?_
  refine gX8_75 F dX8_spotHere_1 sh_202 rfl ?_
  refine q_top (.int (nI (tQ tl tb k))) (congrArg Value.int (hk.2.1)) ?_
  refine q_istore_n1 F dX8_spotHere_4 (by decide) rfl ?_
  refine q_aload_n F 0 dX8_spotHere_5 rfl rfl ?_
  refine gX8_72 F dX8_spotHere_6 sh_202 rfl ?_
  refine q_top (.int (nI (tEnd tl tb (tQ tl tb k)))) (congrArg Value.int (hk.1)) ?_
  refine q_istore_n2 F dX8_spotHere_9 (by decide) rfl ?_
  refine q_aload_n F 0 dX8_spotHere_10 rfl rfl ?_
  refine gX8_81 F dX8_spotHere_11 sh_202 rfl ?_
  refine q_top (.int (nI (tEnd tl tb (tQ tl tb k)))) (congrArg Value.int (hk.2.2)) ?_
  refine q_istore_n3 F dX8_spotHere_14 (by decide) rfl ?_
  refine q_aload_n F 0 dX8_spotHere_15 rfl rfl ?_
  refine q_iconst F (nI 0) dX8_spotHere_16 (by decide) ?_
  refine q_aload_n F 0 dX8_spotHere_17 rfl rfl ?_
  refine gX8_105 F dX8_spotHere_18 sh_202 rfl ?_
  refine q_top (.int (nI L)) (congrArg Value.int (hL)) ?_
  refine q_iconst F (nI 1) dX8_spotHere_21 (by decide) ?_
  refine q_top (.int (bI true)) (congrArg Value.int (by decide)) ?_
  refine iX8_101 F dX8_spotHere_22 (m_number hT hk (lo := 0) (hi := L) (ev := true) (by decide) (by omega)) (by decide) sh_202 rfl rfl (Nat.le_of_ble_eq_true rfl) (fun v_22 σ_22 h_22 => ?_)
  obtain ⟨y22, n22⟩ := h_22
  refine q_istore4 F dX8_spotHere_25 (by decide) rfl ?_
  refine q_iload F 4 dX8_spotHere_27 rfl ?_
  refine q_ldc F dX8_spotHere_29 wX8_19 ?_
  refine q_icmp_eq F 66 dX8_spotHere_31 (by decide) (fun c_31 => ?_) (fun c_31 => ?_)
  · have e22 := num_v (fun z => (y22 z).1) c_31
    have s22 := (n22 e22).2
    rw [num_e] at e22 s22
    refine q_iload F 4 dX8_spotHere_66 rfl ?_
    refine K _ _ _ _ ?_ dX8_spotHere_68 rfl
    subst s22
    refine ⟨fun z => absurd z.1 e22, fun _ => ⟨c_31, by rw [vm_upd_k _ _ _ (by omega)]; exact hk.2.1, by rw [if_neg e22]; simp [vm_upd, upd], mFR.rf.up (by omega)⟩⟩
  · have e22 := Classical.byContradiction (fun h => c_31 (n22 h).1)
    obtain ⟨w22, hk22, f22⟩ := y22 e22
    obtain rfl := w22.symm
    obtain ⟨q22a, q22b, q22c⟩ := num_0 e22
    have r22 : rSpt tl tb (tQ tl tb k) L = 0 := by rw [← num_e]; exact e22
    refine q_aload_n F 0 dX8_spotHere_34 rfl rfl ?_
    refine q_iload F 4 dX8_spotHere_35 rfl ?_
    refine iX8_117 F dX8_spotHere_37 (m_isTaken ((f22.2 18 (by omega) (by omega) (by omega)).trans hn) hn6 (hP.fr (f22.1 210 (by omega))) (by omega)) (by decide) sh_202 rfl rfl (Nat.le_of_ble_eq_true rfl) (fun v_37 σ_37 h_37 => ?_)
    obtain ⟨h_37, g_37⟩ := h_37
    obtain rfl := h_37.symm
    obtain rfl := g_37.symm
    refine b_eq F 66 dX8_spotHere_40 (by decide) (fun c_40 => ?_) (fun c_40 => ?_)
    · have c_40 := of_decide_eq_false c_40
      refine q_iload F 4 dX8_spotHere_66 rfl ?_
      refine K _ _ _ _ ?_ dX8_spotHere_68 rfl
      exact ⟨fun _ => ⟨rfl, hk22, f22, q22b⟩, fun z => absurd ⟨r22, c_40⟩ z⟩
    · have c_40 := of_decide_eq_true c_40
      refine q_aload_n F 0 dX8_spotHere_43 rfl rfl ?_
      refine q_iload_n F 1 dX8_spotHere_44 rfl rfl ?_
      refine pX8_75 F dX8_spotHere_45 sh_202 rfl ⟨rfl, rfl⟩ ?_
      refine q_aload_n F 0 dX8_spotHere_48 rfl rfl ?_
      refine q_iload_n F 2 dX8_spotHere_49 rfl rfl ?_
      refine pX8_72 F dX8_spotHere_50 sh_202 rfl ⟨rfl, rfl⟩ ?_
      refine q_aload_n F 0 dX8_spotHere_53 rfl rfl ?_
      refine q_iload_n F 3 dX8_spotHere_54 rfl rfl ?_
      refine pX8_81 F dX8_spotHere_55 sh_202 rfl ⟨rfl, rfl⟩ ?_
      refine q_aload_n F 0 dX8_spotHere_58 rfl rfl ?_
      refine q_iconst F (nI 2) dX8_spotHere_59 (by decide) ?_
      refine pX8_90 F dX8_spotHere_60 sh_202 rfl ⟨rfl, rfl⟩ ?_
      refine q_ldc F dX8_spotHere_63 wX8_19 ?_
      refine K _ _ _ _ ?_ dX8_spotHere_65 rfl
      exact ⟨fun z => absurd c_40 z.2, fun _ => ⟨rfl, by simp [vm_upd, upd], by rw [if_pos r22]; simp [vm_upd, upd], (((f22.fr.up (by omega)).up (by omega)).up (by omega)).up (by omega)⟩⟩
def fPer (tl : Nat) (tb : Nat → Nat) (n : Nat) : Nat × Nat := if qW tl tb (4 + 6 * n) 0 = true then (if n = 6 then (3, 4 + 6 * n) else rOne tl tb n (4 + 6 * n)) else (1, 4 + 6 * n)
theorem bW (b : Bool) : b = true ∨ b = false := by cases b <;> simp
set_option maxHeartbeats 800000 in
set_option maxRecDepth 100000 in
theorem m_readsPerson {G : vm_G} {σ : vm_M} {tl n : Nat} {tb : Nat → Nat} (hT : mRd σ tl tb) (hk : mTk σ tl tb (4 + 6 * n)) (hn : σ 202 18 = nI n) (hn6 : n ≤ 6) (hL : σ 202 15 = nI (2 * qV tl tb 1)) (hL30 : qV tl tb 1 ≤ 30) (hP : mRP σ tl tb n) : vm_RI G 4 mX8_readsPerson [.ref 202] σ (fun r σ' => ∃ x t, fPer tl tb n = (x, t) ∧ r = bI (decide (x = 0)) ∧ (x = 0 → mTk σ' tl tb (4 + 6 * (n + 1)) ∧ σ' 202 18 = nI (n + 1) ∧ σ' 202 15 = σ 202 15 ∧ σ' 202 16 = σ 202 16 ∧ mRP σ' tl tb (n + 1) ∧ σ' 202 5 = σ 202 5 ∧ mFR σ σ') ∧ (x ≠ 0 → σ' 202 13 = nI (tQ tl tb t) ∧ σ' 202 5 = nI x ∧ mFR σ σ')) := by
  refine vm_int (y := mX8_readsPerson) (by decide) (Nat.le_of_ble_eq_true rfl) (ls0 := [some (.ref 202), none, none, none, none]) rfl rfl (fun C F K => ?_)
  have F : vm_F G C cX8_readsPerson RX8 5 _ := F
  show vm_Ex G C 5 0 [some (.ref 202), none, none, none, none] [] _
  refine q_aload_n F 0 dX8_readsPerson_0 rfl rfl ?_
  refine q_ldc F dX8_readsPerson_1 wX8_120 ?_
  refine q_bipush F (nI 6) dX8_readsPerson_3 (by decide) ?_
  refine iX8_84 F dX8_readsPerson_5 (m_isWord hT hk (w := 0) (ln := 6) (by decide) (by decide +kernel) (by decide) cw_0) (by decide) sh_202 rfl rfl (Nat.le_of_ble_eq_true rfl) (fun v_5 σ_5 h_5 => ?_)
  obtain ⟨h_5, g_5⟩ := h_5
  obtain rfl := h_5.symm
  obtain rfl := g_5.symm
  refine b_ne F 18 dX8_readsPerson_8 (by decide) (fun c_8 => ?_) (fun c_8 => ?_)
  · refine q_aload_n F 0 dX8_readsPerson_18 rfl rfl ?_
    refine gX8_114 F dX8_readsPerson_19 sh_202 rfl ?_
    refine q_top (.int (nI n)) (congrArg Value.int (hn)) ?_
    refine q_bipush F (nI 6) dX8_readsPerson_22 (by decide) ?_
    refine n_ne F 34 dX8_readsPerson_24 (by decide) (by omega) (by omega) (fun c_24 => ?_) (fun c_24 => ?_)
    · have hnn : n < 6 := by omega
      refine q_aload_n F 0 dX8_readsPerson_34 rfl rfl ?_
      refine iX8_93 F dX8_readsPerson_35 (m_tok hT hk (k' := 4 + 6 * n + 1) rfl) (by decide) sh_202 rfl rfl (Nat.le_of_ble_eq_true rfl) (fun σ_35 h_35 => ?_)
      obtain ⟨hk1, f35⟩ := h_35
      have hT1 := hT.ft f35
      refine q_aload_n F 0 dX8_readsPerson_38 rfl rfl ?_
      refine iX8_121 F dX8_readsPerson_39 (m_sortOfWord hT1 hk1) (by decide) sh_202 rfl rfl (Nat.le_of_ble_eq_true rfl) (fun v_39 σ_39 h_39 => ?_)
      obtain ⟨h_39, g_39⟩ := h_39
      obtain rfl := h_39.symm
      obtain rfl := g_39.symm
      refine q_istore_n1 F dX8_readsPerson_42 (by decide) rfl ?_
      refine q_iload_n F 1 dX8_readsPerson_43 rfl rfl ?_
      refine q_ldc F dX8_readsPerson_44 wX8_19 ?_
      refine q_icmp_ne F 56 dX8_readsPerson_46 (by decide) (fun c_46 => ?_) (fun c_46 => ?_)
      · have hq0 : qK tl tb (4 + 6 * n + 1) ≠ 0 := fun z => c_46 (by rw [if_pos z])
        have hqk := qK_lt (tl := tl) (tb := tb) (k := 4 + 6 * n + 1)
        refine q_aload_n F 0 dX8_readsPerson_56 rfl rfl ?_
        refine iX8_93 F dX8_readsPerson_57 (m_tok hT1 hk1 (k' := 4 + 6 * n + 2) rfl) (by decide) sh_202 rfl rfl (Nat.le_of_ble_eq_true rfl) (fun σ_57 h_57 => ?_)
        obtain ⟨hk2, f57⟩ := h_57
        have hT2 := hT1.ft f57
        have hL2 : σ_57 202 15 = nI (2 * qV tl tb 1) := by rw [f57.2 15 (by omega) (by omega) (by omega), f35.2 15 (by omega) (by omega) (by omega)]; exact hL
        have hn2 : σ_57 202 18 = nI n := by rw [f57.2 18 (by omega) (by omega) (by omega), f35.2 18 (by omega) (by omega) (by omega)]; exact hn
        have hP2 : mRP σ_57 tl tb n := hP.fr (by rw [f57.1 210 (by omega), f35.1 210 (by omega)])
        refine q_aload_n F 0 dX8_readsPerson_60 rfl rfl ?_
        refine iX8_125 F dX8_readsPerson_61 (m_spotHere hT2 hk2 hL2 (by omega) hn2 (by omega) hP2) (by decide) sh_202 rfl rfl (Nat.le_of_ble_eq_true rfl) (fun v_61 σ_61 h_61 => ?_)
        obtain ⟨y61, n61⟩ := h_61
        refine q_istore_n2 F dX8_readsPerson_64 (by decide) rfl ?_
        refine q_iload_n F 2 dX8_readsPerson_65 rfl rfl ?_
        refine q_ldc F dX8_readsPerson_66 wX8_19 ?_
        refine q_icmp_ne F 76 dX8_readsPerson_68 (by decide) (fun c_68 => ?_) (fun c_68 => ?_)
        · have hS := Classical.byContradiction (fun h => c_68 (n61 h).1)
          obtain ⟨w61, hk3, f61, q61⟩ := y61 hS
          obtain rfl := w61.symm
          have hT3 := hT2.ft f61
          refine q_aload_n F 0 dX8_readsPerson_76 rfl rfl ?_
          refine q_iconst F (nI 0) dX8_readsPerson_77 (by decide) ?_
          refine q_iconst F (nI 1) dX8_readsPerson_78 (by decide) ?_
          refine q_iconst F (nI 0) dX8_readsPerson_79 (by decide) ?_
          refine q_top (.int (bI false)) (congrArg Value.int (by decide)) ?_
          refine iX8_101 F dX8_readsPerson_80 (m_number (k := 4 + 6 * n + 3) hT3 hk3 (lo := 0) (hi := 1) (ev := false) (by decide) (by decide)) (by decide) sh_202 rfl rfl (Nat.le_of_ble_eq_true rfl) (fun v_80 σ_80 h_80 => ?_)
          obtain ⟨y80, n80⟩ := h_80
          refine q_istore_n3 F dX8_readsPerson_83 (by decide) rfl ?_
          refine q_iload_n F 3 dX8_readsPerson_84 rfl rfl ?_
          refine q_ldc F dX8_readsPerson_85 wX8_19 ?_
          refine q_icmp_ne F 95 dX8_readsPerson_87 (by decide) (fun c_87 => ?_) (fun c_87 => ?_)
          · have e80 := Classical.byContradiction (fun h => c_87 (n80 h).1)
            obtain ⟨w80, hk80, f80⟩ := y80 e80
            obtain rfl := w80.symm
            obtain ⟨q80a, q80b, q80c⟩ := num_0 e80
            have r80 : rNum tl tb (tQ tl tb (4 + 6 * n + 3)) 0 1 = 0 := by rw [← num_f]; exact e80
            have hT4 := hT3.ft f80
            refine q_aload_n F 0 dX8_readsPerson_95 rfl rfl ?_
            refine q_iconst F (nI 0) dX8_readsPerson_96 (by decide) ?_
            refine q_aload_n F 0 dX8_readsPerson_97 rfl rfl ?_
            refine gX8_105 F dX8_readsPerson_98 sh_202 rfl ?_
            refine q_top (.int (nI (2 * qV tl tb 1))) (congrArg Value.int (by rw [f80.2 15 (by omega) (by omega) (by omega), f61.2 15 (by omega) (by omega) (by omega)]; exact hL2)) ?_
            refine q_iconst F (nI 1) dX8_readsPerson_101 (by decide) ?_
            refine q_top (.int (bI true)) (congrArg Value.int (by decide)) ?_
            refine iX8_101 F dX8_readsPerson_102 (m_number (k := 4 + 6 * n + 4) hT4 hk80 (lo := 0) (hi := 2 * qV tl tb 1) (ev := true) (by decide) (by omega)) (by decide) sh_202 rfl rfl (Nat.le_of_ble_eq_true rfl) (fun v_102 σ_102 h_102 => ?_)
            obtain ⟨y102, n102⟩ := h_102
            refine q_istore4 F dX8_readsPerson_105 (by decide) rfl ?_
            refine q_iload F 4 dX8_readsPerson_107 rfl ?_
            refine q_ldc F dX8_readsPerson_109 wX8_19 ?_
            refine q_icmp_ne F 116 dX8_readsPerson_111 (by decide) (fun c_111 => ?_) (fun c_111 => ?_)
            · have e102 := Classical.byContradiction (fun h => c_111 (n102 h).1)
              obtain ⟨w102, hk102, f102⟩ := y102 e102
              obtain rfl := w102.symm
              obtain ⟨q102a, q102b, q102c⟩ := num_0 e102
              have r102 : rSpt tl tb (tQ tl tb (4 + 6 * n + 4)) (2 * qV tl tb 1) = 0 := by rw [← num_e]; exact e102
              have hT5 := hT4.ft f102
              refine q_aload_n F 0 dX8_readsPerson_116 rfl rfl ?_
              refine gX8_32 F dX8_readsPerson_117 sh_202 rfl ?_
              refine q_iconst F (nI 4) dX8_readsPerson_120 (by decide) ?_
              refine q_aload_n F 0 dX8_readsPerson_121 rfl rfl ?_
              refine gX8_114 F dX8_readsPerson_122 sh_202 rfl ?_
              refine q_top (.int (nI n)) (congrArg Value.int (by rw [f102.2 18 (by omega) (by omega) (by omega), f80.2 18 (by omega) (by omega) (by omega), f61.2 18 (by omega) (by omega) (by omega)]; exact hn2)) ?_
              refine n_imul F dX8_readsPerson_125 ?_
              refine q_iload_n F 1 dX8_readsPerson_126 rfl rfl ?_
              refine q_top (.int (nI (qK tl tb (4 + 6 * n + 1)))) (congrArg Value.int (if_neg hq0)) ?_
              refine q_iast F dX8_readsPerson_127 sh_210 (by omega) (by decide) ?_
              refine q_aload_n F 0 dX8_readsPerson_128 rfl rfl ?_
              refine gX8_32 F dX8_readsPerson_129 sh_202 rfl ?_
              refine q_iconst F (nI 4) dX8_readsPerson_132 (by decide) ?_
              refine q_aload_n F 0 dX8_readsPerson_133 rfl rfl ?_
              refine gX8_114 F dX8_readsPerson_134 sh_202 rfl ?_
              refine q_top (.int (nI n)) (congrArg Value.int (by rw [vm_upd_n _ _ _ (by omega)]; rw [f102.2 18 (by omega) (by omega) (by omega), f80.2 18 (by omega) (by omega) (by omega), f61.2 18 (by omega) (by omega) (by omega)]; exact hn2)) ?_
              refine n_imul F dX8_readsPerson_137 ?_
              refine q_iconst F (nI 1) dX8_readsPerson_138 (by decide) ?_
              refine n_iadd F dX8_readsPerson_139 ?_
              refine q_iload_n F 2 dX8_readsPerson_140 rfl rfl ?_
              refine q_iast F dX8_readsPerson_141 sh_210 (by omega) (by decide) ?_
              refine q_aload_n F 0 dX8_readsPerson_142 rfl rfl ?_
              refine gX8_32 F dX8_readsPerson_143 sh_202 rfl ?_
              refine q_iconst F (nI 4) dX8_readsPerson_146 (by decide) ?_
              refine q_aload_n F 0 dX8_readsPerson_147 rfl rfl ?_
              refine gX8_114 F dX8_readsPerson_148 sh_202 rfl ?_
              refine q_top (.int (nI n)) (congrArg Value.int (by rw [vm_upd_n _ _ _ (by omega), vm_upd_n _ _ _ (by omega)]; rw [f102.2 18 (by omega) (by omega) (by omega), f80.2 18 (by omega) (by omega) (by omega), f61.2 18 (by omega) (by omega) (by omega)]; exact hn2)) ?_
              refine n_imul F dX8_readsPerson_151 ?_
              refine q_iconst F (nI 2) dX8_readsPerson_152 (by decide) ?_
              refine n_iadd F dX8_readsPerson_153 ?_
              refine q_iload_n F 3 dX8_readsPerson_154 rfl rfl ?_
              refine q_iast F dX8_readsPerson_155 sh_210 (by omega) (by decide) ?_
              refine q_aload_n F 0 dX8_readsPerson_156 rfl rfl ?_
              refine gX8_32 F dX8_readsPerson_157 sh_202 rfl ?_
              refine q_iconst F (nI 4) dX8_readsPerson_160 (by decide) ?_
              refine q_aload_n F 0 dX8_readsPerson_161 rfl rfl ?_
              refine gX8_114 F dX8_readsPerson_162 sh_202 rfl ?_
              refine q_top (.int (nI n)) (congrArg Value.int (by rw [vm_upd_n _ _ _ (by omega), vm_upd_n _ _ _ (by omega), vm_upd_n _ _ _ (by omega)]; rw [f102.2 18 (by omega) (by omega) (by omega), f80.2 18 (by omega) (by omega) (by omega), f61.2 18 (by omega) (by omega) (by omega)]; exact hn2)) ?_
              refine n_imul F dX8_readsPerson_165 ?_
              refine q_iconst F (nI 3) dX8_readsPerson_166 (by decide) ?_
              refine n_iadd F dX8_readsPerson_167 ?_
              refine q_iload F 4 dX8_readsPerson_168 rfl ?_
              refine q_iast F dX8_readsPerson_170 sh_210 (by omega) (by decide) ?_
              refine q_aload_n F 0 dX8_readsPerson_171 rfl rfl ?_
              refine q_dup F dX8_readsPerson_172 rfl ?_
              refine gX8_114 F dX8_readsPerson_173 sh_202 rfl ?_
              refine q_top (.int (nI n)) (congrArg Value.int (by rw [vm_upd_n _ _ _ (by omega), vm_upd_n _ _ _ (by omega), vm_upd_n _ _ _ (by omega), vm_upd_n _ _ _ (by omega)]; rw [f102.2 18 (by omega) (by omega) (by omega), f80.2 18 (by omega) (by omega) (by omega), f61.2 18 (by omega) (by omega) (by omega)]; exact hn2)) ?_
              refine q_iconst F (nI 1) dX8_readsPerson_176 (by decide) ?_
              refine n_iadd F dX8_readsPerson_177 ?_
              refine pX8_114 F dX8_readsPerson_178 sh_202 rfl ⟨rfl, rfl⟩ ?_
              have hT6 : mRd (vm_upd (vm_upd (vm_upd (vm_upd (vm_upd σ_102 210 (4 * n) (nI (qK tl tb (4 + 6 * n + 1)))) 210 (4 * n + 1) (nI (qV tl tb (4 + 6 * n + 2)))) 210 (4 * n + 2) (nI (qV tl tb (4 + 6 * n + 3)))) 210 (4 * n + 3) (nI (qV tl tb (4 + 6 * n + 4)))) 202 18 (nI (n + 1))) tl tb := hT5.up2.up2.up2.up2.up (by omega)
              have hk6 : mTk (vm_upd (vm_upd (vm_upd (vm_upd (vm_upd σ_102 210 (4 * n) (nI (qK tl tb (4 + 6 * n + 1)))) 210 (4 * n + 1) (nI (qV tl tb (4 + 6 * n + 2)))) 210 (4 * n + 2) (nI (qV tl tb (4 + 6 * n + 3)))) 210 (4 * n + 3) (nI (qV tl tb (4 + 6 * n + 4)))) 202 18 (nI (n + 1))) tl tb (4 + 6 * n + 5) := (mTk.up2 (mTk.up2 (mTk.up2 (mTk.up2 hk102)))).up (by omega)
              have f6 : mFR σ (vm_upd (vm_upd (vm_upd (vm_upd (vm_upd σ_102 210 (4 * n) (nI (qK tl tb (4 + 6 * n + 1)))) 210 (4 * n + 1) (nI (qV tl tb (4 + 6 * n + 2)))) 210 (4 * n + 2) (nI (qV tl tb (4 + 6 * n + 3)))) 210 (4 * n + 3) (nI (qV tl tb (4 + 6 * n + 4)))) 202 18 (nI (n + 1))) := ((((((((f35.fr.tr f57.fr).tr f61.fr).tr f80.fr).tr f102.fr).up2).up2).up2).up2).up (by omega)
              have h5 : ∀ j, j ≠ 18 → j = 5 ∨ j = 15 ∨ j = 16 → (vm_upd (vm_upd (vm_upd (vm_upd (vm_upd σ_102 210 (4 * n) (nI (qK tl tb (4 + 6 * n + 1)))) 210 (4 * n + 1) (nI (qV tl tb (4 + 6 * n + 2)))) 210 (4 * n + 2) (nI (qV tl tb (4 + 6 * n + 3)))) 210 (4 * n + 3) (nI (qV tl tb (4 + 6 * n + 4)))) 202 18 (nI (n + 1))) 202 j = σ 202 j := fun j hj hj2 => by
                rw [vm_upd_k _ _ _ hj, vm_upd_n _ _ _ (by omega), vm_upd_n _ _ _ (by omega), vm_upd_n _ _ _ (by omega), vm_upd_n _ _ _ (by omega), f102.2 j (by omega) (by omega) (by omega), f80.2 j (by omega) (by omega) (by omega), f61.2 j (by omega) (by omega) (by omega), f57.2 j (by omega) (by omega) (by omega), f35.2 j (by omega) (by omega) (by omega)]
              refine q_aload_n F 0 dX8_readsPerson_181 rfl rfl ?_
              refine iX8_111 F dX8_readsPerson_182 (m_readsSign (k := 4 + 6 * n + 5) hT6 hk6) (by decide) sh_202 rfl rfl (Nat.le_of_ble_eq_true rfl) (fun v_182 σ_182 h_182 => ?_)
              obtain ⟨w182, y182, n182⟩ := h_182
              obtain rfl := w182.symm
              refine K _ _ _ _ ?_ dX8_readsPerson_185 (nI_bool _)
              by_cases h3 : tTy tl tb (tQ tl tb (4 + 6 * n + 5)) = 3
              · have e9 : fPer tl tb n = (0, 4 + 6 * n + 5) := by
                  unfold fPer
                  rw [if_pos c_8, if_neg c_24, rOne, if_neg hq0, if_pos hS.1, if_neg hS.2, if_pos r80, if_pos r102, if_pos h3]
                obtain ⟨hk7, f7⟩ := y182 h3
                have g210 : σ_182 210 = (vm_upd (vm_upd (vm_upd (vm_upd σ_102 210 (4 * n) (nI (qK tl tb (4 + 6 * n + 1)))) 210 (4 * n + 1) (nI (qV tl tb (4 + 6 * n + 2)))) 210 (4 * n + 2) (nI (qV tl tb (4 + 6 * n + 3)))) 210 (4 * n + 3) (nI (qV tl tb (4 + 6 * n + 4)))) 210 := by rw [f7.1 210 (by omega), vm_upd_n _ _ _ (by omega)]
                refine ⟨_, _, e9, by rw [decide_eq_true h3]; decide, fun _ => ⟨hk7, ?_, ?_, ?_, ?_, ?_, f6.tr f7.fr⟩, fun z => absurd rfl z⟩
                · rw [f7.2 18 (by omega) (by omega) (by omega)]; simp [vm_upd, upd]
                · rw [f7.2 15 (by omega) (by omega) (by omega)]; exact h5 15 (by omega) (by omega)
                · rw [f7.2 16 (by omega) (by omega) (by omega)]; exact h5 16 (by omega) (by omega)
                · intro j hj
                  by_cases ej : j = n
                  · subst ej
                    refine ⟨⟨?_, ?_, ?_, ?_⟩, by omega, q80b⟩
                    · rw [g210, vm_upd_k _ _ _ (by omega), vm_upd_k _ _ _ (by omega), vm_upd_k _ _ _ (by omega)]; simp [vm_upd, upd]
                    · rw [g210, vm_upd_k _ _ _ (by omega), vm_upd_k _ _ _ (by omega)]; simp [vm_upd, upd]
                    · rw [g210, vm_upd_k _ _ _ (by omega)]; simp [vm_upd, upd]
                    · rw [g210]; simp [vm_upd, upd]
                  · have hjn : j < n := by omega
                    obtain ⟨⟨p1, p2, p3, p4⟩, p5, p6⟩ := hP j hjn
                    have h210 : ∀ z, z < 4 * n → σ_182 210 z = σ 210 z := fun z hz => by rw [g210, vm_upd_k _ _ _ (by omega), vm_upd_k _ _ _ (by omega), vm_upd_k _ _ _ (by omega), vm_upd_k _ _ _ (by omega), f102.1 210 (by omega), f80.1 210 (by omega), f61.1 210 (by omega), f57.1 210 (by omega), f35.1 210 (by omega)]
                    exact ⟨⟨(h210 _ (by omega)).trans p1, (h210 _ (by omega)).trans p2, (h210 _ (by omega)).trans p3, (h210 _ (by omega)).trans p4⟩, p5, p6⟩
                · rw [f7.2 5 (by omega) (by omega) (by omega)]; exact h5 5 (by omega) (by omega)
              · have e9 : fPer tl tb n = (1, 4 + 6 * n + 5) := by
                  unfold fPer
                  rw [if_pos c_8, if_neg c_24, rOne, if_neg hq0, if_pos hS.1, if_neg hS.2, if_pos r80, if_pos r102, if_neg h3]
                have s182 := n182 h3
                subst s182
                exact ⟨_, _, e9, by rw [decide_eq_false h3]; decide, fun z => absurd z (by decide), fun _ => ⟨by rw [vm_upd_k _ _ _ (by omega)]; exact hk6.2.1, by simp [vm_upd, upd], f6.up (by omega)⟩⟩
            · have e102 := num_v (fun z => (y102 z).1) c_111
              have s102 := (n102 e102).2
              rw [num_e] at e102 s102
              refine q_iconst F (nI 0) dX8_readsPerson_114 (by decide) ?_
              refine K _ _ _ _ ?_ dX8_readsPerson_115 (by decide)
              subst s102
              have e9 : fPer tl tb n = (rSpt tl tb (tQ tl tb (4 + 6 * n + 4)) (2 * qV tl tb 1), 4 + 6 * n + 4) := by
                unfold fPer
                rw [if_pos c_8, if_neg c_24, rOne, if_neg hq0, if_pos hS.1, if_neg hS.2, if_pos r80, if_neg e102]
              exact ⟨_, _, e9, by rw [decide_eq_false (e102)]; decide, fun z => absurd z (e102), fun _ => ⟨by rw [vm_upd_k _ _ _ (by omega)]; exact hk80.2.1, by simp [vm_upd, upd], (((f35.fr.tr f57.fr).tr f61.fr).tr f80.fr).up (by omega)⟩⟩
          · have e80 := num_v (fun z => (y80 z).1) c_87
            have s80 := (n80 e80).2
            rw [num_f] at e80 s80
            refine q_ldc F dX8_readsPerson_90 wX8_19 ?_
            refine q_goto F 105 dX8_readsPerson_92 (by decide) ?_
            refine q_istore4 F dX8_readsPerson_105 (by decide) rfl ?_
            refine q_iload F 4 dX8_readsPerson_107 rfl ?_
            refine q_ldc F dX8_readsPerson_109 wX8_19 ?_
            refine q_icmp_ne F 116 dX8_readsPerson_111 (by decide) (fun c_111 => ?_) (fun c_111 => ?_)
            · exact absurd rfl c_111
            · refine q_iconst F (nI 0) dX8_readsPerson_114 (by decide) ?_
              refine K _ _ _ _ ?_ dX8_readsPerson_115 (by decide)
              subst s80
              have e9 : fPer tl tb n = (rNum tl tb (tQ tl tb (4 + 6 * n + 3)) 0 1, 4 + 6 * n + 3) := by
                unfold fPer
                rw [if_pos c_8, if_neg c_24, rOne, if_neg hq0, if_pos hS.1, if_neg hS.2, if_neg e80]
              exact ⟨_, _, e9, by rw [decide_eq_false (e80)]; decide, fun z => absurd z (e80), fun _ => ⟨by rw [vm_upd_k _ _ _ (by omega)]; exact hk3.2.1, by simp [vm_upd, upd], ((f35.fr.tr f57.fr).tr f61.fr).up (by omega)⟩⟩
        · have hS : ¬ (rSpt tl tb (tQ tl tb (4 + 6 * n + 2)) (2 * qV tl tb 1) = 0 ∧ ¬ sF (fun j => decide (qV tl tb (4 + 6 * j + 2) = qV tl tb (4 + 6 * n + 2))) n < n) := fun z => by
            have h := (y61 z).1
            have h2 := (y61 z).2.2.2
            rw [c_68] at h
            exact nI_neN (by omega) h.symm
          obtain ⟨-, g1, g2, g3⟩ := n61 hS
          refine q_ldc F dX8_readsPerson_71 wX8_19 ?_
          refine q_goto F 83 dX8_readsPerson_73 (by decide) ?_
          refine q_istore_n3 F dX8_readsPerson_83 (by decide) rfl ?_
          refine q_iload_n F 3 dX8_readsPerson_84 rfl rfl ?_
          refine q_ldc F dX8_readsPerson_85 wX8_19 ?_
          refine q_icmp_ne F 95 dX8_readsPerson_87 (by decide) (fun c_87 => ?_) (fun c_87 => ?_)
          · exact absurd rfl c_87
          · refine q_ldc F dX8_readsPerson_90 wX8_19 ?_
            refine q_goto F 105 dX8_readsPerson_92 (by decide) ?_
            refine q_istore4 F dX8_readsPerson_105 (by decide) rfl ?_
            refine q_iload F 4 dX8_readsPerson_107 rfl ?_
            refine q_ldc F dX8_readsPerson_109 wX8_19 ?_
            refine q_icmp_ne F 116 dX8_readsPerson_111 (by decide) (fun c_111 => ?_) (fun c_111 => ?_)
            · exact absurd rfl c_111
            · refine q_iconst F (nI 0) dX8_readsPerson_114 (by decide) ?_
              refine K _ _ _ _ ?_ dX8_readsPerson_115 (by decide)
              by_cases h1 : rSpt tl tb (tQ tl tb (4 + 6 * n + 2)) (2 * qV tl tb 1) = 0
              · have h2 : sF (fun j => decide (qV tl tb (4 + 6 * j + 2) = qV tl tb (4 + 6 * n + 2))) n < n := Classical.byContradiction (fun h => hS ⟨h1, h⟩)
                have e9 : fPer tl tb n = (2, 4 + 6 * n + 2) := by
                  unfold fPer
                  rw [if_pos c_8, if_neg c_24, rOne, if_neg hq0, if_pos h1, if_pos h2]
                rw [if_pos h1] at g2
                exact ⟨_, _, e9, by decide, fun z => absurd z (by decide), fun _ => ⟨g1, g2, (f35.fr.tr f57.fr).tr g3⟩⟩
              · have e9 : fPer tl tb n = (rSpt tl tb (tQ tl tb (4 + 6 * n + 2)) (2 * qV tl tb 1), 4 + 6 * n + 2) := by
                  unfold fPer
                  rw [if_pos c_8, if_neg c_24, rOne, if_neg hq0, if_neg h1]
                rw [if_neg h1] at g2
                exact ⟨_, _, e9, by rw [decide_eq_false h1]; decide, fun z => absurd z h1, fun _ => ⟨g1, g2, (f35.fr.tr f57.fr).tr g3⟩⟩
      · have hq0 : qK tl tb (4 + 6 * n + 1) = 0 := by
          rcases Nat.decEq (qK tl tb (4 + 6 * n + 1)) 0 with q | q
          · rw [if_neg q] at c_46; exact absurd c_46 (nI_ne_none qK_lt)
          · exact q
        refine q_aload_n F 0 dX8_readsPerson_49 rfl rfl ?_
        refine q_iconst F (nI 1) dX8_readsPerson_50 (by decide) ?_
        refine pX8_90 F dX8_readsPerson_51 sh_202 rfl ⟨rfl, rfl⟩ ?_
        refine q_iconst F (nI 0) dX8_readsPerson_54 (by decide) ?_
        refine K _ _ _ _ ?_ dX8_readsPerson_55 (by decide)
        have e9 : fPer tl tb n = (1, 4 + 6 * n + 1) := by
          unfold fPer
          rw [if_pos c_8, if_neg c_24, rOne, if_pos hq0]
        exact ⟨_, _, e9, by rw [decide_eq_false (by decide)]; decide, fun z => absurd z (by decide), fun _ => ⟨by rw [vm_upd_k _ _ _ (by omega)]; exact hk1.2.1, by simp [vm_upd, upd], f35.fr.up (by omega)⟩⟩
    · refine q_aload_n F 0 dX8_readsPerson_27 rfl rfl ?_
      refine q_iconst F (nI 3) dX8_readsPerson_28 (by decide) ?_
      refine pX8_90 F dX8_readsPerson_29 sh_202 rfl ⟨rfl, rfl⟩ ?_
      refine q_iconst F (nI 0) dX8_readsPerson_32 (by decide) ?_
      refine K _ _ _ _ ?_ dX8_readsPerson_33 (by decide)
      have e9 : fPer tl tb n = (3, 4 + 6 * n) := by
        unfold fPer
        rw [if_pos c_8, if_pos c_24]
      exact ⟨_, _, e9, by decide, fun z => absurd z (by decide), fun _ => ⟨by rw [vm_upd_k _ _ _ (by omega)]; exact hk.2.1, by simp [vm_upd, upd], mFR.rf.up (by omega)⟩⟩
  · refine q_aload_n F 0 dX8_readsPerson_11 rfl rfl ?_
    refine q_iconst F (nI 1) dX8_readsPerson_12 (by decide) ?_
    refine pX8_90 F dX8_readsPerson_13 sh_202 rfl ⟨rfl, rfl⟩ ?_
    refine q_iconst F (nI 0) dX8_readsPerson_16 (by decide) ?_
    refine K _ _ _ _ ?_ dX8_readsPerson_17 (by decide)
    have e9 : fPer tl tb n = (1, 4 + 6 * n) := by
      unfold fPer
      rw [if_neg (by simp [c_8])]
    exact ⟨_, _, e9, by decide, fun z => absurd z (by decide), fun _ => ⟨by rw [vm_upd_k _ _ _ (by omega)]; exact hk.2.1, by simp [vm_upd, upd], mFR.rf.up (by omega)⟩⟩
