theorem tx_first : ∀ w, w < 7 → 1 ≤ tx_len w ∧ ∃ c, c < 128 ∧ tx_ch w 0 = nI c ∧ isLe c = true := by decide +kernel
theorem word_eq {tl k w ln : Nat} {tb : Nat → Nat} (hb : ∀ j, j < tl → tb j < 256) (hw : w < 7) (hln : tx_len w = ln) : (decide (tEnd tl tb (tQ tl tb k) - tQ tl tb k = ln) && sAll (fun j => decide (nI (tb (tQ tl tb k + j)) = tx_ch w j)) ln) = qW tl tb k w := by
  subst hln
  obtain ⟨h1, c, hc, ec, lc⟩ := tx_first w hw
  unfold qW sWord
  cases h : (decide (tEnd tl tb (tQ tl tb k) - tQ tl tb k = tx_len w) && sAll (fun j => decide (nI (tb (tQ tl tb k + j)) = tx_ch w j)) (tx_len w))
  · rw [Bool.and_false]
  · rw [Bool.and_true]
    simp only [Bool.and_eq_true, decide_eq_true_eq] at h
    obtain ⟨h2, h3⟩ := h
    have hq := tQ_le tl tb k
    have hp : tQ tl tb k ≠ tl := fun z => by
      have : tEnd tl tb (tQ tl tb k) = tl := by unfold tEnd; rw [if_pos z]
      omega
    have h4 := sAll_iff.mp h3 0 (by omega)
    simp only [Nat.add_zero, decide_eq_true_eq] at h4
    have h5 := hb (tQ tl tb k) (by omega)
    rw [ec, nI_eq (by omega) (by omega)] at h4
    exact (decide_eq_true (ty_1 hp (by rw [h4]; exact lc))).symm
theorem word_no {D : Bool} {f : Nat → Bool} {i n : Nat} (h : (D && sAll f i) = false) (hi : i ≤ n) : (D && sAll f n) = false := by
  cases D
  · rfl
  · cases h2 : sAll f n
    · rfl
    · rw [sAll_iff.mpr (fun p hp => sAll_iff.mp h2 p (by omega))] at h
      exact absurd h (by decide)
theorem qK_eq (tl : Nat) (tb : Nat → Nat) (k : Nat) : qK tl tb k = if qW tl tb k 2 = true then 1 else if qW tl tb k 3 = true then 2 else if qW tl tb k 4 = true then 4 else if qW tl tb k 5 = true then 3 else if qW tl tb k 6 = true then 5 else 0 := rfl
set_option maxHeartbeats 4000000 in
set_option maxRecDepth 100000 in
theorem m_isWord {G : vm_G} {σ : vm_M} {tl : Nat} {tb : Nat → Nat} (hT : mRd σ tl tb) {k : Nat} (hk : mTk σ tl tb k) {w ln : Nat} (hw : w < 7) (hln : tx_len w = ln) (hl7 : ln < 7) {cw : Int32} (hcw : ∀ i, i < ln → nI 96 + ((cw >>> (nI (5 * i) &&& 31)) &&& nI 31) = tx_ch w i) : vm_RI G 0 mX8_isWord [.ref 202, .int cw, .int (nI ln)] σ (fun r σ' => r = bI (qW tl tb k w) ∧ σ' = σ) := by
  refine vm_int (y := mX8_isWord) (by decide) (Nat.le_of_ble_eq_true rfl) (ls0 := [some (.ref 202), some (.int cw), some (.int (nI ln)), none, none]) rfl rfl (fun C F K => ?_)
  have F : vm_F G C cX8_isWord RX8 5 _ := F
  show vm_Ex G C 5 0 [some (.ref 202), some (.int cw), some (.int (nI ln)), none, none] [] _
  have hq := tQ_le tl tb k
  have he := tEnd_le (tb := tb) hq
  have htl := hT.2.1
  have L : ∀ k2 i, i + k2 = ln → vm_Ex G C 5 22 [some (.ref 202), some (.int cw), some (.int (nI ln)), some (.int (bI (decide (tEnd tl tb (tQ tl tb k) - tQ tl tb k = ln) && sAll (fun j => decide (nI (tb (tQ tl tb k + j)) = tx_ch w j)) i))), some (.int (nI i))] [] σ := by
    intro k2
    induction k2 with
    | zero =>
      intro i hi
      refine q_iload_n F 3 dX8_isWord_22 rfl rfl ?_
      refine b_eq F 71 dX8_isWord_23 (by decide) (fun c_23 => ?_) (fun c_23 => ?_)
      · refine q_iload_n F 3 dX8_isWord_71 rfl rfl ?_
        refine K _ _ _ _ ?_ dX8_isWord_72 (nI_bool _)
        refine ⟨?_, rfl⟩
        rw [← word_eq (fun j hj => (hT.2.2 j hj).2) hw hln, word_no c_23 (show i ≤ ln by omega), c_23]
      · refine q_iload F 4 dX8_isWord_26 rfl ?_
        refine q_iload_n F 2 dX8_isWord_28 rfl rfl ?_
        refine n_ge F 71 dX8_isWord_29 (by decide) (by omega) (by omega) (fun c_29 => ?_) (fun c_29 => ?_)
        · refine q_iload_n F 3 dX8_isWord_71 rfl rfl ?_
          refine K _ _ _ _ ?_ dX8_isWord_72 (nI_bool _)
          refine ⟨?_, rfl⟩
          rw [← word_eq (fun j hj => (hT.2.2 j hj).2) hw hln, show i = ln by omega]
        · omega
    | succ k2 ih =>
      intro i hi
      refine q_iload_n F 3 dX8_isWord_22 rfl rfl ?_
      refine b_eq F 71 dX8_isWord_23 (by decide) (fun c_23 => ?_) (fun c_23 => ?_)
      · refine q_iload_n F 3 dX8_isWord_71 rfl rfl ?_
        refine K _ _ _ _ ?_ dX8_isWord_72 (nI_bool _)
        refine ⟨?_, rfl⟩
        rw [← word_eq (fun j hj => (hT.2.2 j hj).2) hw hln, word_no c_23 (show i ≤ ln by omega), c_23]
      · have hD : tEnd tl tb (tQ tl tb k) - tQ tl tb k = ln := by
          have h := c_23
          simp only [Bool.and_eq_true, decide_eq_true_eq] at h
          exact h.1
        refine q_iload F 4 dX8_isWord_26 rfl ?_
        refine q_iload_n F 2 dX8_isWord_28 rfl rfl ?_
        refine n_ge F 71 dX8_isWord_29 (by decide) (by omega) (by omega) (fun c_29 => ?_) (fun c_29 => ?_)
        · omega
        · refine q_aload_n F 0 dX8_isWord_32 rfl rfl ?_
          refine gX8_16 F dX8_isWord_33 sh_202 rfl ?_
          refine q_aload_n F 0 dX8_isWord_36 rfl rfl ?_
          refine gX8_75 F dX8_isWord_37 sh_202 rfl ?_
          refine q_top (.int (nI (tQ tl tb k))) (congrArg Value.int (hk.2.1)) ?_
          refine q_iload F 4 dX8_isWord_40 rfl ?_
          refine n_iadd F dX8_isWord_42 ?_
          refine q_iald F dX8_isWord_43 sh_205 (by omega) (by decide) ?_
          refine q_top (.int (nI (tb (tQ tl tb k + i)))) (congrArg Value.int ((hT.2.2 _ (by omega)).1)) ?_
          refine q_bipush F (nI 96) dX8_isWord_44 (by decide) ?_
          refine q_iload_n F 1 dX8_isWord_46 rfl rfl ?_
          refine q_iconst F (nI 5) dX8_isWord_47 (by decide) ?_
          refine q_iload F 4 dX8_isWord_48 rfl ?_
          refine n_imul F dX8_isWord_50 ?_
          refine q_ishr F dX8_isWord_51 ?_
          refine q_bipush F (nI 31) dX8_isWord_52 (by decide) ?_
          refine q_iand F dX8_isWord_54 ?_
          refine q_iadd F dX8_isWord_55 ?_
          refine q_top (.int (tx_ch w i)) (congrArg Value.int (hcw i (by omega))) ?_
          refine q_icmp_ne F 63 dX8_isWord_56 (by decide) (fun c_56 => ?_) (fun c_56 => ?_)
          · refine q_iconst F (nI 0) dX8_isWord_63 (by decide) ?_
            refine q_istore_n3 F dX8_isWord_64 (by decide) rfl ?_
            refine q_iinc4 F _ dX8_isWord_65 (nI_inc _) (by decide) rfl ?_
            refine q_goto F 22 dX8_isWord_68 (by decide) ?_
            have hh := ih (i + 1) (by omega)
            rw [sAll_s, ← Bool.and_assoc, c_23, decide_eq_false c_56] at hh
            exact hh
          · refine q_iconst F (nI 1) dX8_isWord_59 (by decide) ?_
            refine q_goto F 64 dX8_isWord_60 (by decide) ?_
            refine q_istore_n3 F dX8_isWord_64 (by decide) rfl ?_
            refine q_iinc4 F _ dX8_isWord_65 (nI_inc _) (by decide) rfl ?_
            refine q_goto F 22 dX8_isWord_68 (by decide) ?_
            have hh := ih (i + 1) (by omega)
            rw [sAll_s, ← Bool.and_assoc, c_23, decide_eq_true c_56] at hh
            exact hh
  have J19 : ∀ y, y = bI (decide (tEnd tl tb (tQ tl tb k) - tQ tl tb k = ln)) → vm_Ex G C 5 18 [some (.ref 202), some (.int cw), some (.int (nI ln)), none, none] [.int y] σ := by
    intro y hy
    subst hy
    have L0 := L ln 0 (by omega)
    rw [sAll_0, Bool.and_true] at L0
    refine q_istore_n3 F dX8_isWord_18 (by decide) rfl ?_
    refine q_iconst F (nI 0) dX8_isWord_19 (by decide) ?_
    refine q_istore4 F dX8_isWord_20 (by decide) rfl ?_
    exact L0
  refine q_aload_n F 0 dX8_isWord_0 rfl rfl ?_
  refine gX8_81 F dX8_isWord_1 sh_202 rfl ?_
  refine q_top (.int (nI (tEnd tl tb (tQ tl tb k)))) (congrArg Value.int (hk.2.2)) ?_
  refine q_aload_n F 0 dX8_isWord_4 rfl rfl ?_
  refine gX8_75 F dX8_isWord_5 sh_202 rfl ?_
  refine q_top (.int (nI (tQ tl tb k))) (congrArg Value.int (hk.2.1)) ?_
  refine n_isub F dX8_isWord_8 (by omega) ?_
  refine q_iload_n F 2 dX8_isWord_9 rfl rfl ?_
  refine n_ne F 17 dX8_isWord_10 (by decide) (by omega) (by omega) (fun c_10 => ?_) (fun c_10 => ?_)
  · refine q_iconst F (nI 0) dX8_isWord_17 (by decide) ?_
    exact J19 _ (by simp [bI, nI_0, nI_one, c_10])
  · refine q_iconst F (nI 1) dX8_isWord_13 (by decide) ?_
    refine q_goto F 18 dX8_isWord_14 (by decide) ?_
    exact J19 _ (by simp [bI, nI_0, nI_one, c_10])
theorem cw_0 : ∀ i, i < 6 → nI 96 + (((486131888 : Int32) >>> (nI (5 * i) &&& 31)) &&& nI 31) = tx_ch 0 i := by decide +kernel
theorem cw_1 : ∀ i, i < 4 → nI 96 + (((282672 : Int32) >>> (nI (5 * i) &&& 31)) &&& nI 31) = tx_ch 1 i := by decide +kernel
theorem cw_2 : ∀ i, i < 3 → nI 96 + ((nI 20518 >>> (nI (5 * i) &&& 31)) &&& nI 31) = tx_ch 2 i := by decide +kernel
theorem cw_3 : ∀ i, i < 3 → nI 96 + ((nI 26082 >>> (nI (5 * i) &&& 31)) &&& nI 31) = tx_ch 3 i := by decide +kernel
theorem cw_4 : ∀ i, i < 4 → nI 96 + (((375277 : Int32) >>> (nI (5 * i) &&& 31)) &&& nI 31) = tx_ch 4 i := by decide +kernel
theorem cw_5 : ∀ i, i < 5 → nI 96 + (((24613175 : Int32) >>> (nI (5 * i) &&& 31)) &&& nI 31) = tx_ch 5 i := by decide +kernel
theorem cw_6 : ∀ i, i < 3 → nI 96 + ((nI 24035 >>> (nI (5 * i) &&& 31)) &&& nI 31) = tx_ch 6 i := by decide +kernel
set_option maxHeartbeats 4000000 in
set_option maxRecDepth 100000 in
theorem m_sortOfWord {G : vm_G} {σ : vm_M} {tl : Nat} {tb : Nat → Nat} (hT : mRd σ tl tb) {k : Nat} (hk : mTk σ tl tb k) : vm_RI G 1 mX8_sortOfWord [.ref 202] σ (fun r σ' => r = (if qK tl tb k = 0 then -1000000 else nI (qK tl tb k)) ∧ σ' = σ) := by
  refine vm_int (y := mX8_sortOfWord) (by decide) (Nat.le_of_ble_eq_true rfl) (ls0 := [some (.ref 202)]) rfl rfl (fun C F K => ?_)
  have F : vm_F G C cX8_sortOfWord RX8 1 _ := F
  show vm_Ex G C 1 0 [some (.ref 202)] [] _
  refine q_aload_n F 0 dX8_sortOfWord_0 rfl rfl ?_
  refine q_sipush F (nI 20518) dX8_sortOfWord_1 (by decide) ?_
  refine q_iconst F (nI 3) dX8_sortOfWord_4 (by decide) ?_
  refine iX8_84 F dX8_sortOfWord_5 (m_isWord hT hk (w := 2) (ln := 3) (by decide) (by decide +kernel) (by decide) cw_2) (by decide) sh_202 rfl rfl (Nat.le_of_ble_eq_true rfl) (fun v_5 σ_5 h_5 => ?_)
  obtain ⟨rfl, h_5⟩ := h_5
  obtain rfl := h_5.symm
  refine b_eq F 15 dX8_sortOfWord_8 (by decide) (fun c_8 => ?_) (fun c_8 => ?_)
  · refine q_aload_n F 0 dX8_sortOfWord_15 rfl rfl ?_
    refine q_sipush F (nI 26082) dX8_sortOfWord_16 (by decide) ?_
    refine q_iconst F (nI 3) dX8_sortOfWord_19 (by decide) ?_
    refine iX8_84 F dX8_sortOfWord_20 (m_isWord hT hk (w := 3) (ln := 3) (by decide) (by decide +kernel) (by decide) cw_3) (by decide) sh_202 rfl rfl (Nat.le_of_ble_eq_true rfl) (fun v_20 σ_20 h_20 => ?_)
    obtain ⟨rfl, h_20⟩ := h_20
    obtain rfl := h_20.symm
    refine b_eq F 30 dX8_sortOfWord_23 (by decide) (fun c_23 => ?_) (fun c_23 => ?_)
    · refine q_aload_n F 0 dX8_sortOfWord_30 rfl rfl ?_
      refine q_ldc F dX8_sortOfWord_31 wX8_88 ?_
      refine q_iconst F (nI 4) dX8_sortOfWord_33 (by decide) ?_
      refine iX8_84 F dX8_sortOfWord_34 (m_isWord hT hk (w := 4) (ln := 4) (by decide) (by decide +kernel) (by decide) cw_4) (by decide) sh_202 rfl rfl (Nat.le_of_ble_eq_true rfl) (fun v_34 σ_34 h_34 => ?_)
      obtain ⟨rfl, h_34⟩ := h_34
      obtain rfl := h_34.symm
      refine b_eq F 44 dX8_sortOfWord_37 (by decide) (fun c_37 => ?_) (fun c_37 => ?_)
      · refine q_aload_n F 0 dX8_sortOfWord_44 rfl rfl ?_
        refine q_ldc F dX8_sortOfWord_45 wX8_89 ?_
        refine q_iconst F (nI 5) dX8_sortOfWord_47 (by decide) ?_
        refine iX8_84 F dX8_sortOfWord_48 (m_isWord hT hk (w := 5) (ln := 5) (by decide) (by decide +kernel) (by decide) cw_5) (by decide) sh_202 rfl rfl (Nat.le_of_ble_eq_true rfl) (fun v_48 σ_48 h_48 => ?_)
        obtain ⟨rfl, h_48⟩ := h_48
        obtain rfl := h_48.symm
        refine b_eq F 58 dX8_sortOfWord_51 (by decide) (fun c_51 => ?_) (fun c_51 => ?_)
        · refine q_aload_n F 0 dX8_sortOfWord_58 rfl rfl ?_
          refine q_sipush F (nI 24035) dX8_sortOfWord_59 (by decide) ?_
          refine q_iconst F (nI 3) dX8_sortOfWord_62 (by decide) ?_
          refine iX8_84 F dX8_sortOfWord_63 (m_isWord hT hk (w := 6) (ln := 3) (by decide) (by decide +kernel) (by decide) cw_6) (by decide) sh_202 rfl rfl (Nat.le_of_ble_eq_true rfl) (fun v_63 σ_63 h_63 => ?_)
          obtain ⟨rfl, h_63⟩ := h_63
          obtain rfl := h_63.symm
          refine b_eq F 73 dX8_sortOfWord_66 (by decide) (fun c_66 => ?_) (fun c_66 => ?_)
          · refine q_ldc F dX8_sortOfWord_73 wX8_19 ?_
            refine K _ _ _ _ ?_ dX8_sortOfWord_75 rfl
            exact ⟨by simp [qK_eq, c_8, c_23, c_37, c_51, c_66], rfl⟩
          · refine q_iconst F (nI 5) dX8_sortOfWord_69 (by decide) ?_
            refine q_goto F 75 dX8_sortOfWord_70 (by decide) ?_
            refine K _ _ _ _ ?_ dX8_sortOfWord_75 rfl
            exact ⟨by simp [qK_eq, c_8, c_23, c_37, c_51, c_66], rfl⟩
        · refine q_iconst F (nI 3) dX8_sortOfWord_54 (by decide) ?_
          refine q_goto F 75 dX8_sortOfWord_55 (by decide) ?_
          refine K _ _ _ _ ?_ dX8_sortOfWord_75 rfl
          exact ⟨by simp [qK_eq, c_8, c_23, c_37, c_51], rfl⟩
      · refine q_iconst F (nI 4) dX8_sortOfWord_40 (by decide) ?_
        refine q_goto F 75 dX8_sortOfWord_41 (by decide) ?_
        refine K _ _ _ _ ?_ dX8_sortOfWord_75 rfl
        exact ⟨by simp [qK_eq, c_8, c_23, c_37], rfl⟩
    · refine q_iconst F (nI 2) dX8_sortOfWord_26 (by decide) ?_
      refine q_goto F 75 dX8_sortOfWord_27 (by decide) ?_
      refine K _ _ _ _ ?_ dX8_sortOfWord_75 rfl
      exact ⟨by simp [qK_eq, c_8, c_23], rfl⟩
  · refine q_iconst F (nI 1) dX8_sortOfWord_11 (by decide) ?_
    refine q_goto F 75 dX8_sortOfWord_12 (by decide) ?_
    refine K _ _ _ _ ?_ dX8_sortOfWord_75 rfl
    exact ⟨by simp [qK_eq, c_8], rfl⟩
set_option maxHeartbeats 4000000 in
set_option maxRecDepth 100000 in
theorem m_isSign {G : vm_G} {σ : vm_M} {tl : Nat} {tb : Nat → Nat} (hT : mRd σ tl tb) {k : Nat} (hk : mTk σ tl tb k) : vm_RI G 0 mX8_isSign [.ref 202] σ (fun r σ' => r = bI (decide (tTy tl tb (tQ tl tb k) = 3)) ∧ σ' = σ) := by
  refine vm_int (y := mX8_isSign) (by decide) (Nat.le_of_ble_eq_true rfl) (ls0 := [some (.ref 202)]) rfl rfl (fun C F K => ?_)
  have F : vm_F G C cX8_isSign RX8 1 _ := F
  show vm_Ex G C 1 0 [some (.ref 202)] [] _
  have hq := tQ_le tl tb k
  have htl := hT.2.1
  refine q_aload_n F 0 dX8_isSign_0 rfl rfl ?_
  refine gX8_75 F dX8_isSign_1 sh_202 rfl ?_
  refine q_top (.int (nI (tQ tl tb k))) (congrArg Value.int (hk.2.1)) ?_
  refine q_aload_n F 0 dX8_isSign_4 rfl rfl ?_
  refine gX8_66 F dX8_isSign_5 sh_202 rfl ?_
  refine q_top (.int (nI tl)) (congrArg Value.int (hT.1)) ?_
  refine n_ge F 29 dX8_isSign_8 (by decide) (by omega) (by omega) (fun c_8 => ?_) (fun c_8 => ?_)
  · refine q_iconst F (nI 0) dX8_isSign_29 (by decide) ?_
    refine K _ _ _ _ ?_ dX8_isSign_30 (by decide)
    refine ⟨?_, rfl⟩
    rw [decide_eq_false (fun z => by have := ty_3.mp z; omega)]
    decide
  · have hb6 := (hT.2.2 (tQ tl tb k) (by omega)).2
    refine q_aload_n F 0 dX8_isSign_11 rfl rfl ?_
    refine gX8_16 F dX8_isSign_12 sh_202 rfl ?_
    refine q_aload_n F 0 dX8_isSign_15 rfl rfl ?_
    refine gX8_75 F dX8_isSign_16 sh_202 rfl ?_
    refine q_top (.int (nI (tQ tl tb k))) (congrArg Value.int (hk.2.1)) ?_
    refine q_iald F dX8_isSign_19 sh_205 (by omega) (by decide) ?_
    refine q_top (.int (nI (tb (tQ tl tb k)))) (congrArg Value.int ((hT.2.2 _ (by omega)).1)) ?_
    refine q_bipush F (nI 59) dX8_isSign_20 (by decide) ?_
    refine n_ne F 29 dX8_isSign_22 (by decide) (by omega) (by omega) (fun c_22 => ?_) (fun c_22 => ?_)
    · refine q_iconst F (nI 0) dX8_isSign_29 (by decide) ?_
      refine K _ _ _ _ ?_ dX8_isSign_30 (by decide)
      refine ⟨?_, rfl⟩
      rw [decide_eq_false (fun z => by have := ty_3.mp z; omega)]
      decide
    · refine q_iconst F (nI 1) dX8_isSign_25 (by decide) ?_
      refine q_goto F 30 dX8_isSign_26 (by decide) ?_
      refine K _ _ _ _ ?_ dX8_isSign_30 (by decide)
      refine ⟨?_, rfl⟩
      rw [decide_eq_true (ty_3.mpr ⟨by omega, c_22⟩)]
      decide
set_option maxHeartbeats 4000000 in
set_option maxRecDepth 100000 in
theorem m_readsSign {G : vm_G} {σ : vm_M} {tl : Nat} {tb : Nat → Nat} (hT : mRd σ tl tb) {k : Nat} (hk : mTk σ tl tb k) : vm_RI G 2 mX8_readsSign [.ref 202] σ (fun r σ' => r = bI (decide (tTy tl tb (tQ tl tb k) = 3)) ∧ (tTy tl tb (tQ tl tb k) = 3 → mTk σ' tl tb (k + 1) ∧ mFT σ σ') ∧ (tTy tl tb (tQ tl tb k) ≠ 3 → σ' = vm_upd σ 202 5 (nI 1))) := by
  refine vm_int (y := mX8_readsSign) (by decide) (Nat.le_of_ble_eq_true rfl) (ls0 := [some (.ref 202)]) rfl rfl (fun C F K => ?_)
  have F : vm_F G C cX8_readsSign RX8 1 _ := F
  show vm_Ex G C 1 0 [some (.ref 202)] [] _
  refine q_aload_n F 0 dX8_readsSign_0 rfl rfl ?_
  refine iX8_96 F dX8_readsSign_1 (m_isSign hT hk) (by decide) sh_202 rfl rfl (Nat.le_of_ble_eq_true rfl) (fun v_1 σ_1 h_1 => ?_)
  obtain ⟨rfl, h_1⟩ := h_1
  obtain rfl := h_1.symm
  refine b_ne F 14 dX8_readsSign_4 (by decide) (fun c_4 => ?_) (fun c_4 => ?_)
  · have c_4 := of_decide_eq_true c_4
    refine q_aload_n F 0 dX8_readsSign_14 rfl rfl ?_
    refine iX8_93 F dX8_readsSign_15 (m_tok hT hk rfl) (by decide) sh_202 rfl rfl (Nat.le_of_ble_eq_true rfl) (fun σ_15 h_15 => ?_)
    obtain ⟨hk2, f2⟩ := h_15
    refine q_iconst F (nI 1) dX8_readsSign_18 (by decide) ?_
    refine K _ _ _ _ ?_ dX8_readsSign_19 (by decide)
    exact ⟨by rw [decide_eq_true c_4]; decide, fun _ => ⟨hk2, f2⟩, fun z => absurd c_4 z⟩
  · have c_4 := of_decide_eq_false c_4
    refine q_aload_n F 0 dX8_readsSign_7 rfl rfl ?_
    refine q_iconst F (nI 1) dX8_readsSign_8 (by decide) ?_
    refine pX8_90 F dX8_readsSign_9 sh_202 rfl ⟨rfl, rfl⟩ ?_
    refine q_iconst F (nI 0) dX8_readsSign_12 (by decide) ?_
    refine K _ _ _ _ ?_ dX8_readsSign_13 (by decide)
    exact ⟨by rw [decide_eq_false c_4]; decide, fun z => absurd z c_4, fun _ => rfl⟩
def mNum (tl : Nat) (tb : Nat → Nat) (k lo hi : Nat) (ev : Bool) : Nat := if rNum tl tb (tQ tl tb k) lo hi = 0 then (if ev = true ∧ qV tl tb k % 2 = 1 then 2 else 0) else rNum tl tb (tQ tl tb k) lo hi
theorem num_1 {tl k lo hi : Nat} {tb : Nat → Nat} {ev : Bool} (h : tTy tl tb (tQ tl tb k) ≠ 2) : mNum tl tb k lo hi ev = 1 := by
  unfold mNum rNum
  rw [if_neg h, if_neg (by omega)]
theorem num_r {tl k lo hi : Nat} {tb : Nat → Nat} (h : tTy tl tb (tQ tl tb k) = 2) : rNum tl tb (tQ tl tb k) lo hi = if lo ≤ qV tl tb k ∧ qV tl tb k ≤ hi then 0 else 2 := by
  unfold rNum
  rw [if_pos h]
  rfl
theorem num_f {tl k lo : Nat} {tb : Nat → Nat} (hi : Nat) : mNum tl tb k lo hi false = rNum tl tb (tQ tl tb k) lo hi := by
  unfold mNum
  split
  · next h => rw [h]; rfl
  · rfl
theorem num_e {tl k : Nat} {tb : Nat → Nat} (hi : Nat) : mNum tl tb k 0 hi true = rSpt tl tb (tQ tl tb k) hi := by
  unfold mNum rSpt
  split
  · next h =>
    have : tVal tb (tQ tl tb k) (tEnd tl tb (tQ tl tb k) - tQ tl tb k) = qV tl tb k := rfl
    rw [this]
    by_cases h2 : qV tl tb k % 2 = 1
    · rw [if_pos ⟨rfl, h2⟩, if_neg (by omega)]
    · rw [if_neg (fun z => h2 z.2), if_pos (by omega)]
  · rfl
theorem in_nat {x y z : Nat} (hx : x < 2 ^ 31) (hy : y < 2 ^ 31) (hz : z < 2 ^ 31) : decide ((nI y).toInt64.toInt ≤ (nI x).toInt64.toInt ∧ (nI x).toInt64.toInt ≤ (nI z).toInt64.toInt) = decide (y ≤ x ∧ x ≤ z) := by
  rw [Int32.toInt_toInt64, Int32.toInt_toInt64, Int32.toInt_toInt64, nI_toInt hx, nI_toInt hy, nI_toInt hz]
  exact decide_eq_decide.mpr ⟨fun h => by omega, fun h => by omega⟩
set_option maxHeartbeats 4000000 in
set_option maxRecDepth 100000 in
theorem m_number {G : vm_G} {σ : vm_M} {tl : Nat} {tb : Nat → Nat} (hT : mRd σ tl tb) {k : Nat} (hk : mTk σ tl tb k) {lo hi : Nat} {ev : Bool} (hlo : lo < 2 ^ 31) (hhi : hi < 2 ^ 31) : vm_RI G 2 mX8_number [.ref 202, .int (nI lo), .int (nI hi), .int (bI ev)] σ (fun r σ' => (mNum tl tb k lo hi ev = 0 → r = nI (qV tl tb k) ∧ mTk σ' tl tb (k + 1) ∧ mFT σ σ') ∧ (mNum tl tb k lo hi ev ≠ 0 → r = -1000000 ∧ σ' = vm_upd σ 202 5 (nI (mNum tl tb k lo hi ev)))) := by
  refine vm_int (y := mX8_number) (by decide) (Nat.le_of_ble_eq_true rfl) (ls0 := [some (.ref 202), some (.int (nI lo)), some (.int (nI hi)), some (.int (bI ev)), none, none]) rfl rfl (fun C F K => ?_)
  have F : vm_F G C cX8_number RX8 6 _ := F
  show vm_Ex G C 6 0 [some (.ref 202), some (.int (nI lo)), some (.int (nI hi)), some (.int (bI ev)), none, none] [] _
  have hq := tQ_le tl tb k
  have he := tEnd_le (tb := tb) hq
  have htl := hT.2.1
  refine q_aload_n F 0 dX8_number_0 rfl rfl ?_
  refine gX8_75 F dX8_number_1 sh_202 rfl ?_
  refine q_top (.int (nI (tQ tl tb k))) (congrArg Value.int (hk.2.1)) ?_
  refine q_aload_n F 0 dX8_number_4 rfl rfl ?_
  refine gX8_66 F dX8_number_5 sh_202 rfl ?_
  refine q_top (.int (nI tl)) (congrArg Value.int (hT.1)) ?_
  refine n_eq F 40 dX8_number_8 (by decide) (by omega) (by omega) (fun c_8 => ?_) (fun c_8 => ?_)
  · refine q_aload_n F 0 dX8_number_40 rfl rfl ?_
    refine q_iconst F (nI 1) dX8_number_41 (by decide) ?_
    refine pX8_90 F dX8_number_42 sh_202 rfl ⟨rfl, rfl⟩ ?_
    refine q_ldc F dX8_number_45 wX8_19 ?_
    refine K _ _ _ _ ?_ dX8_number_47 rfl
    have e9 : mNum tl tb k lo hi ev = 1 := by exact num_1 (fun z => (ty_2.mp z).1 c_8)
    rw [e9]
    exact ⟨fun z => absurd z (by decide), fun _ => ⟨rfl, rfl⟩⟩
  · refine q_aload_n F 0 dX8_number_11 rfl rfl ?_
    refine gX8_16 F dX8_number_12 sh_202 rfl ?_
    refine q_aload_n F 0 dX8_number_15 rfl rfl ?_
    refine gX8_75 F dX8_number_16 sh_202 rfl ?_
    refine q_top (.int (nI (tQ tl tb k))) (congrArg Value.int (hk.2.1)) ?_
    refine q_iald F dX8_number_19 sh_205 (by omega) (by decide) ?_
    refine q_top (.int (nI (tb (tQ tl tb k)))) (congrArg Value.int ((hT.2.2 _ (by omega)).1)) ?_
    refine iX8_78 F dX8_number_20 (m_sort (hT.2.2 _ (by omega)).2) (by decide) rfl rfl (Nat.le_of_ble_eq_true rfl) (fun v_20 σ_20 h_20 => ?_)
    obtain ⟨rfl, h_20⟩ := h_20
    obtain rfl := h_20.symm
    refine q_iconst F (nI 2) dX8_number_23 (by decide) ?_
    refine n_ne F 40 dX8_number_24 (by decide) (srt_sm _) (by omega) (fun c_24 => ?_) (fun c_24 => ?_)
    · refine q_aload_n F 0 dX8_number_40 rfl rfl ?_
      refine q_iconst F (nI 1) dX8_number_41 (by decide) ?_
      refine pX8_90 F dX8_number_42 sh_202 rfl ⟨rfl, rfl⟩ ?_
      refine q_ldc F dX8_number_45 wX8_19 ?_
      refine K _ _ _ _ ?_ dX8_number_47 rfl
      have e9 : mNum tl tb k lo hi ev = 1 := by exact num_1 (fun z => c_24 (ty_2.mp z).2.1)
      rw [e9]
      exact ⟨fun z => absurd z (by decide), fun _ => ⟨rfl, rfl⟩⟩
    · refine q_aload_n F 0 dX8_number_27 rfl rfl ?_
      refine gX8_81 F dX8_number_28 sh_202 rfl ?_
      refine q_top (.int (nI (tEnd tl tb (tQ tl tb k)))) (congrArg Value.int (hk.2.2)) ?_
      refine q_aload_n F 0 dX8_number_31 rfl rfl ?_
      refine gX8_75 F dX8_number_32 sh_202 rfl ?_
      refine q_top (.int (nI (tQ tl tb k))) (congrArg Value.int (hk.2.1)) ?_
      refine n_isub F dX8_number_35 (by omega) ?_
      refine q_iconst F (nI 3) dX8_number_36 (by decide) ?_
      refine n_le F 48 dX8_number_37 (by decide) (by omega) (by omega) (fun c_37 => ?_) (fun c_37 => ?_)
      · refine q_iconst F (nI 0) dX8_number_48 (by decide) ?_
        refine q_istore4 F dX8_number_49 (by decide) rfl ?_
        refine q_aload_n F 0 dX8_number_51 rfl rfl ?_
        refine gX8_75 F dX8_number_52 sh_202 rfl ?_
        refine q_top (.int (nI (tQ tl tb k))) (congrArg Value.int (hk.2.1)) ?_
        refine q_istore5 F dX8_number_55 (by decide) rfl ?_
        have hty : tTy tl tb (tQ tl tb k) = 2 := ty_2.mpr ⟨c_8, c_24, c_37⟩
        have hv := tok_val hty
        have hqv : qV tl tb k < 1000 := hv
        have L : ∀ k2 j, tQ tl tb k + j + k2 = tEnd tl tb (tQ tl tb k) → vm_Ex G C 6 57 [some (.ref 202), some (.int (nI lo)), some (.int (nI hi)), some (.int (bI ev)), some (.int (nI (tVal tb (tQ tl tb k) j))), some (.int (nI (tQ tl tb k + j)))] [] σ := by
          intro k2
          induction k2 with
          | zero =>
            intro j hj
            refine q_iload F 5 dX8_number_57 rfl ?_
            refine q_aload_n F 0 dX8_number_59 rfl rfl ?_
            refine gX8_81 F dX8_number_60 sh_202 rfl ?_
            refine q_top (.int (nI (tEnd tl tb (tQ tl tb k)))) (congrArg Value.int (hk.2.2)) ?_
            refine n_ge F 90 dX8_number_63 (by decide) (by omega) (by omega) (fun c_63 => ?_) (fun c_63 => ?_)
            · have ej : tQ tl tb k + j = tEnd tl tb (tQ tl tb k) := by omega
              have eV : tVal tb (tQ tl tb k) j = qV tl tb k := by unfold qV; congr 1; omega
              rw [eV]
              refine q_iload F 4 dX8_number_90 rfl ?_
              refine q_i2l F dX8_number_92 ?_
              refine q_iload_n F 1 dX8_number_93 rfl rfl ?_
              refine q_i2l F dX8_number_94 ?_
              refine q_iload_n F 2 dX8_number_95 rfl rfl ?_
              refine q_i2l F dX8_number_96 ?_
              refine iX8_42 F dX8_number_97 (m_in _ _ _) (by decide) rfl rfl (Nat.le_of_ble_eq_true rfl) (fun v_97 σ_97 h_97 => ?_)
              obtain ⟨rfl, h_97⟩ := h_97
              obtain rfl := h_97.symm
              refine q_top (.int (bI (decide (lo ≤ qV tl tb k ∧ qV tl tb k ≤ hi)))) (congrArg Value.int (by rw [in_nat (by omega) (by omega) (by omega)])) ?_
              refine b_eq F 115 dX8_number_100 (by decide) (fun c_100 => ?_) (fun c_100 => ?_)
              · have c_100 := of_decide_eq_false c_100
                refine q_aload_n F 0 dX8_number_115 rfl rfl ?_
                refine q_iconst F (nI 2) dX8_number_116 (by decide) ?_
                refine pX8_90 F dX8_number_117 sh_202 rfl ⟨rfl, rfl⟩ ?_
                refine q_ldc F dX8_number_120 wX8_19 ?_
                refine K _ _ _ _ ?_ dX8_number_122 rfl
                have e9 : mNum tl tb k lo hi ev = 2 := by unfold mNum; rw [num_r hty, if_neg c_100, if_neg (by decide)]
                rw [e9]
                exact ⟨fun z => absurd z (by decide), fun _ => ⟨rfl, rfl⟩⟩
              · have c_100 := of_decide_eq_true c_100
                refine q_iload_n F 3 dX8_number_103 rfl rfl ?_
                refine b_eq F 123 dX8_number_104 (by decide) (fun c_104 => ?_) (fun c_104 => ?_)
                · refine q_aload_n F 0 dX8_number_123 rfl rfl ?_
                  refine iX8_93 F dX8_number_124 (m_tok hT hk rfl) (by decide) sh_202 rfl rfl (Nat.le_of_ble_eq_true rfl) (fun σ_124 h_124 => ?_)
                  obtain ⟨hk2, f2⟩ := h_124
                  refine q_iload F 4 dX8_number_127 rfl ?_
                  refine K _ _ _ _ ?_ dX8_number_129 rfl
                  have e9 : mNum tl tb k lo hi ev = 0 := by unfold mNum; rw [num_r hty, if_pos c_100, if_pos rfl, if_neg (fun z => by rw [c_104] at z; exact absurd z.1 (by decide))]
                  rw [e9]
                  exact ⟨fun _ => ⟨rfl, hk2, f2⟩, fun z => absurd rfl z⟩
                · refine q_iload F 4 dX8_number_107 rfl ?_
                  refine q_iconst F (nI 2) dX8_number_109 (by decide) ?_
                  refine q_irem F dX8_number_110 (by decide) rfl ?_
                  refine q_top (.int (nI (qV tl tb k % 2))) (congrArg Value.int (pk_rem (by omega) (by decide) (by decide))) ?_
                  refine q_iconst F (nI 1) dX8_number_111 (by decide) ?_
                  refine n_ne F 123 dX8_number_112 (by decide) (by omega) (by omega) (fun c_112 => ?_) (fun c_112 => ?_)
                  · refine q_aload_n F 0 dX8_number_123 rfl rfl ?_
                    refine iX8_93 F dX8_number_124 (m_tok hT hk rfl) (by decide) sh_202 rfl rfl (Nat.le_of_ble_eq_true rfl) (fun σ_124 h_124 => ?_)
                    obtain ⟨hk2, f2⟩ := h_124
                    refine q_iload F 4 dX8_number_127 rfl ?_
                    refine K _ _ _ _ ?_ dX8_number_129 rfl
                    have e9 : mNum tl tb k lo hi ev = 0 := by unfold mNum; rw [num_r hty, if_pos c_100, if_pos rfl, if_neg (fun z => c_112 z.2)]
                    rw [e9]
                    exact ⟨fun _ => ⟨rfl, hk2, f2⟩, fun z => absurd rfl z⟩
                  · refine q_aload_n F 0 dX8_number_115 rfl rfl ?_
                    refine q_iconst F (nI 2) dX8_number_116 (by decide) ?_
                    refine pX8_90 F dX8_number_117 sh_202 rfl ⟨rfl, rfl⟩ ?_
                    refine q_ldc F dX8_number_120 wX8_19 ?_
                    refine K _ _ _ _ ?_ dX8_number_122 rfl
                    have e9 : mNum tl tb k lo hi ev = 2 := by unfold mNum; rw [num_r hty, if_pos c_100, if_pos rfl, if_pos ⟨c_104, c_112⟩]
                    rw [e9]
                    exact ⟨fun z => absurd z (by decide), fun _ => ⟨rfl, rfl⟩⟩
            · omega
          | succ k2 ih =>
            intro j hj
            refine q_iload F 5 dX8_number_57 rfl ?_
            refine q_aload_n F 0 dX8_number_59 rfl rfl ?_
            refine gX8_81 F dX8_number_60 sh_202 rfl ?_
            refine q_top (.int (nI (tEnd tl tb (tQ tl tb k)))) (congrArg Value.int (hk.2.2)) ?_
            refine n_ge F 90 dX8_number_63 (by decide) (by omega) (by omega) (fun c_63 => ?_) (fun c_63 => ?_)
            · omega
            · have hf := (tok_num hty).2 j (by omega)
              unfold isFi at hf
              simp only [Bool.and_eq_true, decide_eq_true_eq] at hf
              refine q_bipush F (nI 10) dX8_number_66 (by decide) ?_
              refine q_iload F 4 dX8_number_68 rfl ?_
              refine n_imul F dX8_number_70 ?_
              refine q_aload_n F 0 dX8_number_71 rfl rfl ?_
              refine gX8_16 F dX8_number_72 sh_202 rfl ?_
              refine q_iload F 5 dX8_number_75 rfl ?_
              refine q_iald F dX8_number_77 sh_205 (by omega) (by decide) ?_
              refine q_top (.int (nI (tb (tQ tl tb k + j)))) (congrArg Value.int ((hT.2.2 _ (by omega)).1)) ?_
              refine n_iadd F dX8_number_78 ?_
              refine q_bipush F (nI 48) dX8_number_79 (by decide) ?_
              refine n_isub F dX8_number_81 (by omega) ?_
              refine q_top (.int (nI (tVal tb (tQ tl tb k) (j + 1)))) (congrArg Value.int (by rw [tVal]; congr 1; omega)) ?_
              refine q_istore4 F dX8_number_82 (by decide) rfl ?_
              refine q_iinc5 F _ dX8_number_84 (nI_inc _) (by decide) rfl ?_
              refine q_goto F 57 dX8_number_87 (by decide) ?_
              exact ih (j + 1) (by omega)
        exact L (tEnd tl tb (tQ tl tb k) - tQ tl tb k) 0 (by omega)
      · refine q_aload_n F 0 dX8_number_40 rfl rfl ?_
        refine q_iconst F (nI 1) dX8_number_41 (by decide) ?_
        refine pX8_90 F dX8_number_42 sh_202 rfl ⟨rfl, rfl⟩ ?_
        refine q_ldc F dX8_number_45 wX8_19 ?_
        refine K _ _ _ _ ?_ dX8_number_47 rfl
        have e9 : mNum tl tb k lo hi ev = 1 := by exact num_1 (fun z => by have := (ty_2.mp z).2.2; omega)
        rw [e9]
        exact ⟨fun z => absurd z (by decide), fun _ => ⟨rfl, rfl⟩⟩
