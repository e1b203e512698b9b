set_option maxHeartbeats 4000000 in
set_option maxRecDepth 100000 in
theorem m_isPerson {G : vm_G} {σ : vm_M} {n : Nat} (hN : σ 203 3 = nI n) (hn : n ≤ 6) (x : Int32) : vm_RI G 1 mX8_isPerson [.ref 202, .int x] σ (fun r σ' => r = bI (wi x n) ∧ σ' = σ) := by
  refine vm_int (y := mX8_isPerson) (by decide) (Nat.le_of_ble_eq_true rfl) (ls0 := [some (.ref 202), some (.int x)]) rfl rfl (fun C F K => ?_)
  have F : vm_F G C cX8_isPerson RX8 2 _ := F
  show vm_Ex G C 2 0 [some (.ref 202), some (.int x)] [] _
  refine q_iload_n F 1 dX8_isPerson_0 rfl rfl ?_
  refine q_i2l F dX8_isPerson_1 ?_
  refine q_lconst F (lN 0) dX8_isPerson_2 (by decide) ?_
  refine q_aload_n F 0 dX8_isPerson_3 rfl rfl ?_
  refine gX8_7 F dX8_isPerson_4 sh_202 rfl ?_
  refine q_iconst F (nI 3) dX8_isPerson_7 (by decide) ?_
  refine q_iald F dX8_isPerson_8 sh_203 (by omega) (by decide) ?_
  refine q_top (.int (nI n)) (congrArg Value.int (hN)) ?_
  refine q_iconst F (nI 1) dX8_isPerson_9 (by decide) ?_
  refine q_isub F dX8_isPerson_10 ?_
  refine q_i2l F dX8_isPerson_11 ?_
  refine iX8_42 F dX8_isPerson_12 (m_in _ _ _) (by decide) rfl rfl (Nat.le_of_ble_eq_true rfl) (fun v_12 σ_12 h_12 => ?_)
  obtain ⟨rfl, rfl⟩ := h_12
  refine K _ _ _ _ ?_ dX8_isPerson_15 (nI_bool _)
  exact ⟨by rw [in_wi (n := n) (by decide) (sz_m1 _ (by omega))], rfl⟩
theorem wi_n {w : Int32} {n j : Nat} (h : wi w n = false) (hj : j < n) (hn : n < 2 ^ 31) : ¬ w = nI j := fun z => by
  rw [z, wi_nI2 hj hn] at h
  exact absurd h (by decide)
theorem tell_bad {v : vm_V} {p : Nat} {w : Int32} (h : wi w 3 = false) : sTell v p w = sBAD := by
  unfold sTell
  rw [if_neg (wi_n h (by omega) (by omega)), if_neg (wi_n h (by omega) (by omega)), if_neg (wi_n h (by omega) (by omega))]
  rfl
theorem i_ne {i j : Nat} (h : i ≠ j) (hi : i < 2 ^ 31) (hj : j < 2 ^ 31) : ¬ nI i = nI j := fun z => h ((nI_eq hi hj).mp z)
set_option maxHeartbeats 4000000 in
set_option maxRecDepth 100000 in
theorem m_factOf {G : vm_G} {σ : vm_M} {v : vm_V} {b p : Nat} (hM : mMov σ 203 (b + 5) v) (hb : b ≤ 93) (hp : p < V_n v) (hn : V_n v ≤ 6) {w : Nat} (hw : w < 3) : vm_RI G 0 mX8_factOf [.ref 202, .int (nI b), .int (nI p), .int (nI w)] σ (fun r σ' => r = sTell v p (nI w) ∧ σ' = σ) := by
  refine vm_int (y := mX8_factOf) (by decide) (Nat.le_of_ble_eq_true rfl) (ls0 := [some (.ref 202), some (.int (nI b)), some (.int (nI p)), some (.int (nI w))]) rfl rfl (fun C F K => ?_)
  have F : vm_F G C cX8_factOf RX8 4 _ := F
  show vm_Ex G C 4 0 [some (.ref 202), some (.int (nI b)), some (.int (nI p)), some (.int (nI w))] [] _
  refine q_iload_n F 3 dX8_factOf_0 rfl rfl ?_
  refine z_ne F 18 dX8_factOf_1 (by decide) (by omega) (fun c_1 => ?_) (fun c_1 => ?_)
  · refine q_iload_n F 3 dX8_factOf_18 rfl rfl ?_
    refine q_iconst F (nI 1) dX8_factOf_19 (by decide) ?_
    refine n_ne F 39 dX8_factOf_20 (by decide) (by omega) (by omega) (fun c_20 => ?_) (fun c_20 => ?_)
    · refine q_aload_n F 0 dX8_factOf_39 rfl rfl ?_
      refine gX8_7 F dX8_factOf_40 sh_202 rfl ?_
      refine q_iload_n F 1 dX8_factOf_43 rfl rfl ?_
      refine q_bipush F (nI 13) dX8_factOf_44 (by decide) ?_
      refine n_iadd F dX8_factOf_46 ?_
      refine q_iload_n F 2 dX8_factOf_47 rfl rfl ?_
      refine n_iadd F dX8_factOf_48 ?_
      refine q_iald F dX8_factOf_49 sh_203 (by omega) (by decide) ?_
      refine q_top (.int (nI (V_er v p))) (congrArg Value.int (hM.aEr hp)) ?_
      refine K _ _ _ _ ?_ dX8_factOf_50 rfl
      refine ⟨?_, rfl⟩
      unfold sTell
      rw [if_neg (i_ne c_1 (by omega) (by omega)), if_neg (i_ne c_20 (by omega) (by omega)), if_pos (by rw [show w = 2 by omega])]
    · refine q_aload_n F 0 dX8_factOf_23 rfl rfl ?_
      refine gX8_7 F dX8_factOf_24 sh_202 rfl ?_
      refine q_iload_n F 1 dX8_factOf_27 rfl rfl ?_
      refine q_bipush F (nI 6) dX8_factOf_28 (by decide) ?_
      refine n_iadd F dX8_factOf_30 ?_
      refine q_iald F dX8_factOf_31 sh_203 (by omega) (by decide) ?_
      refine q_top (.int (nI (wM (V_wy v) (V_n v)))) (congrArg Value.int (hM.aWs)) ?_
      refine q_iload_n F 2 dX8_factOf_32 rfl rfl ?_
      refine q_ishr F dX8_factOf_33 ?_
      refine q_iconst F (nI 1) dX8_factOf_34 (by decide) ?_
      refine q_iand F dX8_factOf_35 ?_
      refine q_top (.int (bI (V_wy v p))) (congrArg Value.int (by rw [bit_at _ (wM_64 hn) _ (by omega), wM_bit]; simp [hp])) ?_
      refine q_goto F 50 dX8_factOf_36 (by decide) ?_
      refine K _ _ _ _ ?_ dX8_factOf_50 rfl
      refine ⟨?_, rfl⟩
      unfold sTell
      rw [if_neg (i_ne c_1 (by omega) (by omega)), if_pos (by rw [c_20])]
  · refine q_aload_n F 0 dX8_factOf_4 rfl rfl ?_
    refine gX8_7 F dX8_factOf_5 sh_202 rfl ?_
    refine q_iload_n F 1 dX8_factOf_8 rfl rfl ?_
    refine q_bipush F (nI 7) dX8_factOf_9 (by decide) ?_
    refine n_iadd F dX8_factOf_11 ?_
    refine q_iload_n F 2 dX8_factOf_12 rfl rfl ?_
    refine n_iadd F dX8_factOf_13 ?_
    refine q_iald F dX8_factOf_14 sh_203 (by omega) (by decide) ?_
    refine q_top (.int (V_sp v p)) (congrArg Value.int (hM.aSp hp)) ?_
    refine q_goto F 50 dX8_factOf_15 (by decide) ?_
    refine K _ _ _ _ ?_ dX8_factOf_50 rfl
    refine ⟨?_, rfl⟩
    unfold sTell
    rw [if_pos (by rw [c_1])]
set_option maxHeartbeats 4000000 in
set_option maxRecDepth 100000 in
theorem m_person {G : vm_G} {σ : vm_M} {T : vm_T} (hM : MInv σ T) (hI : SInv T) (x w : Int32) : vm_RI G 2 mX8_person [.ref 202, .int x, .int w] σ (mPost σ (aPerson T x w)) := by
  refine vm_int (y := mX8_person) (by decide) (Nat.le_of_ble_eq_true rfl) (ls0 := [some (.ref 202), some (.int x), some (.int w)]) rfl rfl (fun C F K => ?_)
  have F : vm_F G C cX8_person RX8 3 _ := F
  show vm_Ex G C 3 0 [some (.ref 202), some (.int x), some (.int w)] [] _
  obtain ⟨hR, hTp, ⟨hHp, hS⟩, hPs, hIm, hTr, hFl, hFn⟩ := id hM
  have hX := hS.1
  have hM2 : mMov σ 203 (0 + 5) (T_nw T) := hS.2.2
  have hG := hI.1
  have hOk := hG.1
  have hn : V_n (T_nw T) ≤ 6 := hOk.1
  refine q_aload_n F 0 dX8_person_0 rfl rfl ?_
  refine q_iload_n F 1 dX8_person_1 rfl rfl ?_
  refine iX8_168 F dX8_person_2 (m_isPerson hX.aN hn _) (by decide) sh_202 rfl rfl (Nat.le_of_ble_eq_true rfl) (fun v_2 σ_2 h_2 => ?_)
  obtain ⟨rfl, h_2⟩ := h_2
  obtain rfl := h_2.symm
  refine b_eq F 30 dX8_person_5 (by decide) (fun c_5 => ?_) (fun c_5 => ?_)
  · refine q_ldc F dX8_person_30 wX8_52 ?_
    refine K _ _ _ _ ?_ dX8_person_32 rfl
    have e : aPerson T x w = (sBAD, T) := by
      simp [aPerson, c_5]
    rw [e]
    exact ⟨rfl, hM, fun _ _ => rfl⟩
  · obtain ⟨p, hpp, rfl⟩ := wi_of c_5
    have hxp := xN_nI (show p < 2 ^ 31 by omega)
    refine q_iload_n F 2 dX8_person_8 rfl rfl ?_
    refine q_i2l F dX8_person_9 ?_
    refine q_lconst F (lN 0) dX8_person_10 (by decide) ?_
    refine q_ldc2 F dX8_person_11 wX8_50 ?_
    refine iX8_42 F dX8_person_14 (m_in _ _ _) (by decide) rfl rfl (Nat.le_of_ble_eq_true rfl) (fun v_14 σ_14 h_14 => ?_)
    obtain ⟨rfl, h_14⟩ := h_14
    obtain rfl := h_14.symm
    refine q_top (.int (bI (wi w 3))) (congrArg Value.int (by rw [in_wi (n := 3) (by decide) (by decide)])) ?_
    refine b_eq F 30 dX8_person_17 (by decide) (fun c_17 => ?_) (fun c_17 => ?_)
    · refine q_ldc F dX8_person_30 wX8_52 ?_
      refine K _ _ _ _ ?_ dX8_person_32 rfl
      have e : aPerson T (nI p) w = (sBAD, T) := by
        rw [aPerson, hxp, c_5, tell_bad c_17]
        simp
      rw [e]
      exact ⟨rfl, hM, fun _ _ => rfl⟩
    · obtain ⟨w, hpw, rfl⟩ := wi_of c_17
      have hxw := xN_nI (show w < 2 ^ 31 by omega)
      refine q_aload_n F 0 dX8_person_20 rfl rfl ?_
      refine q_iconst F (nI 0) dX8_person_21 (by decide) ?_
      refine q_iload_n F 1 dX8_person_22 rfl rfl ?_
      refine q_iload_n F 2 dX8_person_23 rfl rfl ?_
      refine iX8_171 F dX8_person_24 (m_factOf hM2 (by omega) hpp hn hpw) (by decide) sh_202 rfl rfl (Nat.le_of_ble_eq_true rfl) (fun v_24 σ_24 h_24 => ?_)
      obtain ⟨rfl, rfl⟩ := h_24
      refine q_goto F 32 dX8_person_27 (by decide) ?_
      refine K _ _ _ _ ?_ dX8_person_32 rfl
      have e : aPerson T (nI p) (nI w) = (sTell (T_nw T) p (nI w), T) := by
        rw [aPerson, hxp, c_5]
        simp
      rw [e]
      exact ⟨rfl, hM, fun _ _ => rfl⟩
set_option maxHeartbeats 4000000 in
set_option maxRecDepth 100000 in
theorem m_holder0 {G : vm_G} {σ : vm_M} {b e z : Nat} (hb : b ≤ 93) (hz6 : z < 6) (hz : σ 203 (b + 13 + z) = nI e) : vm_RI G 0 mX8_holderOf [.ref 202, .int (nI b), .int (nI e)] σ (fun r σ' => ∃ p, r = nI p ∧ p ≤ z ∧ σ 203 (b + 13 + p) = nI e ∧ (∀ j, j < p → ¬ σ 203 (b + 13 + j) = nI e) ∧ σ' = σ) := by
  refine vm_int (y := mX8_holderOf) (by decide) (Nat.le_of_ble_eq_true rfl) (ls0 := [some (.ref 202), some (.int (nI b)), some (.int (nI e)), none]) rfl rfl (fun C F K => ?_)
  have F : vm_F G C cX8_holderOf RX8 4 _ := F
  show vm_Ex G C 4 0 [some (.ref 202), some (.int (nI b)), some (.int (nI e)), none] [] _
  have L : ∀ k i, (∀ j, j < i → ¬ σ 203 (b + 13 + j) = nI e) → i ≤ z → z = i + k → vm_Ex G C 4 2 [some (.ref 202), some (.int (nI b)), some (.int (nI e)), some (.int (nI i))] [] σ := by
    intro k
    induction k with
    | zero =>
      intro i hh hi hk
      refine q_aload_n F 0 dX8_holderOf_2 rfl rfl ?_
      refine gX8_7 F dX8_holderOf_3 sh_202 rfl ?_
      refine q_iload_n F 1 dX8_holderOf_6 rfl rfl ?_
      refine q_bipush F (nI 13) dX8_holderOf_7 (by decide) ?_
      refine n_iadd F dX8_holderOf_9 ?_
      refine q_iload_n F 3 dX8_holderOf_10 rfl rfl ?_
      refine n_iadd F dX8_holderOf_11 ?_
      refine q_iald F dX8_holderOf_12 sh_203 (by omega) (by decide) ?_
      refine q_iload_n F 2 dX8_holderOf_13 rfl rfl ?_
      refine q_icmp_eq F 23 dX8_holderOf_14 (by decide) (fun c_14 => ?_) (fun c_14 => ?_)
      · refine q_iload_n F 3 dX8_holderOf_23 rfl rfl ?_
        refine K _ _ _ _ ?_ dX8_holderOf_24 rfl
        exact ⟨i, rfl, hi, c_14, hh, rfl⟩
      · exact absurd (by rw [show i = z by omega]; exact hz) c_14
    | succ k ih =>
      intro i hh hi hk
      refine q_aload_n F 0 dX8_holderOf_2 rfl rfl ?_
      refine gX8_7 F dX8_holderOf_3 sh_202 rfl ?_
      refine q_iload_n F 1 dX8_holderOf_6 rfl rfl ?_
      refine q_bipush F (nI 13) dX8_holderOf_7 (by decide) ?_
      refine n_iadd F dX8_holderOf_9 ?_
      refine q_iload_n F 3 dX8_holderOf_10 rfl rfl ?_
      refine n_iadd F dX8_holderOf_11 ?_
      refine q_iald F dX8_holderOf_12 sh_203 (by omega) (by decide) ?_
      refine q_iload_n F 2 dX8_holderOf_13 rfl rfl ?_
      refine q_icmp_eq F 23 dX8_holderOf_14 (by decide) (fun c_14 => ?_) (fun c_14 => ?_)
      · refine q_iload_n F 3 dX8_holderOf_23 rfl rfl ?_
        refine K _ _ _ _ ?_ dX8_holderOf_24 rfl
        exact ⟨i, rfl, hi, c_14, hh, rfl⟩
      · refine q_iinc3 F _ dX8_holderOf_17 (nI_inc _) (by decide) rfl ?_
        refine q_goto F 2 dX8_holderOf_20 (by decide) ?_
        exact ih (i + 1) (fun j hj => by
          rcases Nat.lt_or_ge j i with q | q
          · exact hh j q
          · rw [show j = i by omega]; exact c_14) (by omega) (by omega)
  refine q_iconst F (nI 0) dX8_holderOf_0 (by decide) ?_
  refine q_istore_n3 F dX8_holderOf_1 (by decide) rfl ?_
  exact L z 0 (fun j hj => absurd hj (Nat.not_lt_zero _)) (by omega) (by omega)
theorem hold_of {σ : vm_M} {b e p : Nat} {v : vm_V} (hM : mMov σ 203 (b + 5) v) (hG : sG v) (he : e < V_n v) {z : Nat} (hzn : z < V_n v) (hpz : p ≤ z) (h1 : σ 203 (b + 13 + p) = nI e) (h2 : ∀ j, j < p → ¬ σ 203 (b + 13 + j) = nI e) : sHold e v = p := by
  have hn : V_n v ≤ 6 := hG.1.1
  have hE : ∀ j, j < V_n v → V_er v j < V_n v := hG.1.2.1
  have q : ∀ j, j < V_n v → (σ 203 (b + 13 + j) = nI e ↔ V_er v j = e) := fun j hj => by
    have := hE j hj
    rw [hM.aEr hj, nI_eq (by omega) (by omega)]
  have h1 := (q p (by omega)).mp h1
  have h2 : ∀ j, j < p → (V_er v j == e) = false := fun j hj => by
    have := h2 j hj
    rw [q j (by omega)] at this
    simpa using this
  unfold sHold
  by_cases hp : p < V_n v - 1
  · exact sF_at h2 (by simpa using h1) hp
  · have e1 : V_n v - 1 = p := by omega
    rw [e1]
    exact sF_none h2
set_option maxHeartbeats 4000000 in
set_option maxRecDepth 100000 in
theorem m_errand {G : vm_G} {σ : vm_M} {T : vm_T} (hM : MInv σ T) (hI : SInv T) (x w : Int32) : vm_RI G 2 mX8_errand [.ref 202, .int x, .int w] σ (mPost σ (aErrand T x w)) := by
  refine vm_int (y := mX8_errand) (by decide) (Nat.le_of_ble_eq_true rfl) (ls0 := [some (.ref 202), some (.int x), some (.int w), none]) rfl rfl (fun C F K => ?_)
  have F : vm_F G C cX8_errand RX8 4 _ := F
  show vm_Ex G C 4 0 [some (.ref 202), some (.int x), some (.int w), none] [] _
  obtain ⟨hR, hTp, ⟨hHp, hS⟩, hPs, hIm, hTr, hFl, hFn⟩ := id hM
  have hX := hS.1
  have hM2 : mMov σ 203 (0 + 5) (T_nw T) := hS.2.2
  have hG := hI.1
  have hOk := hG.1
  have hn : V_n (T_nw T) ≤ 6 := hOk.1
  refine q_aload_n F 0 dX8_errand_0 rfl rfl ?_
  refine q_iload_n F 1 dX8_errand_1 rfl rfl ?_
  refine iX8_168 F dX8_errand_2 (m_isPerson hX.aN hn _) (by decide) sh_202 rfl rfl (Nat.le_of_ble_eq_true rfl) (fun v_2 σ_2 h_2 => ?_)
  obtain ⟨rfl, h_2⟩ := h_2
  obtain rfl := h_2.symm
  refine b_eq F 20 dX8_errand_5 (by decide) (fun c_5 => ?_) (fun c_5 => ?_)
  · refine q_ldc F dX8_errand_20 wX8_52 ?_
    refine K _ _ _ _ ?_ dX8_errand_22 rfl
    have e : aErrand T x w = (sBAD, T) := by
      simp [aErrand, c_5]
    rw [e]
    exact ⟨rfl, hM, fun _ _ => rfl⟩
  · obtain ⟨p, hpp, rfl⟩ := wi_of c_5
    have hxp := xN_nI (show p < 2 ^ 31 by omega)
    obtain ⟨z0, hz0n, hz0e⟩ := hG.2.1 p hpp
    refine q_iload_n F 2 dX8_errand_8 rfl rfl ?_
    refine q_i2l F dX8_errand_9 ?_
    refine q_lconst F (lN 0) dX8_errand_10 (by decide) ?_
    refine q_ldc2 F dX8_errand_11 wX8_175 ?_
    refine iX8_42 F dX8_errand_14 (m_in _ _ _) (by decide) rfl rfl (Nat.le_of_ble_eq_true rfl) (fun v_14 σ_14 h_14 => ?_)
    obtain ⟨rfl, h_14⟩ := h_14
    obtain rfl := h_14.symm
    refine q_top (.int (bI (wi w 4))) (congrArg Value.int (by rw [in_wi (n := 4) (by decide) (by decide)])) ?_
    refine b_ne F 23 dX8_errand_17 (by decide) (fun c_17 => ?_) (fun c_17 => ?_)
    · obtain ⟨w, hpw, rfl⟩ := wi_of c_17
      have hxw := xN_nI (show w < 2 ^ 31 by omega)
      refine q_aload_n F 0 dX8_errand_23 rfl rfl ?_
      refine q_iconst F (nI 0) dX8_errand_24 (by decide) ?_
      refine q_iload_n F 1 dX8_errand_25 rfl rfl ?_
      refine iX8_177 F dX8_errand_26 (m_holder0 (b := 0) (z := z0) (by omega) (by omega) ((hM2.aEr hz0n).trans (congrArg nI hz0e))) (by decide) sh_202 rfl rfl (Nat.le_of_ble_eq_true rfl) (fun v_26 σ_26 h_26 => ?_)
      obtain ⟨h0, hr, h01, h02, h03, rfl⟩ := h_26
      obtain rfl := hr
      have hH := hold_of hM2 hG hpp hz0n h01 h02 h03
      refine q_istore_n3 F dX8_errand_29 (by decide) rfl ?_
      refine q_iload_n F 2 dX8_errand_30 rfl rfl ?_
      refine z_ne F 46 dX8_errand_31 (by decide) (by omega) (fun c_31 => ?_) (fun c_31 => ?_)
      · refine q_iload_n F 2 dX8_errand_46 rfl rfl ?_
        refine q_iconst F (nI 1) dX8_errand_47 (by decide) ?_
        refine n_ne F 64 dX8_errand_48 (by decide) (by omega) (by omega) (fun c_48 => ?_) (fun c_48 => ?_)
        · refine q_iload_n F 2 dX8_errand_64 rfl rfl ?_
          refine q_iconst F (nI 2) dX8_errand_65 (by decide) ?_
          refine n_ne F 73 dX8_errand_66 (by decide) (by omega) (by omega) (fun c_66 => ?_) (fun c_66 => ?_)
          · refine q_aload_n F 0 dX8_errand_73 rfl rfl ?_
            refine gX8_7 F dX8_errand_74 sh_202 rfl ?_
            refine q_bipush F (nI 7) dX8_errand_77 (by decide) ?_
            refine q_iload_n F 3 dX8_errand_79 rfl rfl ?_
            refine n_iadd F dX8_errand_80 ?_
            refine q_iald F dX8_errand_81 sh_203 (by omega) (by decide) ?_
            refine q_top (.int (V_sp (T_nw T) h0)) (congrArg Value.int (hM2.aSp (by omega))) ?_
            refine K _ _ _ _ ?_ dX8_errand_82 rfl
            have e : aErrand T (nI p) (nI w) = (V_sp (T_nw T) h0, T) := by
              rw [aErrand, hxp, c_5]
              rw [if_neg (by decide), if_neg (i_ne c_31 (by omega) (by omega)), if_neg (i_ne c_48 (by omega) (by omega)), if_neg (i_ne c_66 (by omega) (by omega)), if_pos (by rw [show w = 3 by omega]), hH]
            rw [e]
            exact ⟨rfl, hM, fun _ _ => rfl⟩
          · refine q_iload_n F 3 dX8_errand_69 rfl rfl ?_
            refine q_goto F 82 dX8_errand_70 (by decide) ?_
            refine K _ _ _ _ ?_ dX8_errand_82 rfl
            have e : aErrand T (nI p) (nI w) = (nI h0, T) := by
              rw [aErrand, hxp, c_5]
              rw [if_neg (by decide), if_neg (i_ne c_31 (by omega) (by omega)), if_neg (i_ne c_48 (by omega) (by omega)), if_pos (by rw [c_66]), hH]
            rw [e]
            exact ⟨rfl, hM, fun _ _ => rfl⟩
        · refine q_aload_n F 0 dX8_errand_51 rfl rfl ?_
          refine gX8_7 F dX8_errand_52 sh_202 rfl ?_
          refine q_iconst F (nI 5) dX8_errand_55 (by decide) ?_
          refine q_iald F dX8_errand_56 sh_203 (by omega) (by decide) ?_
          refine q_top (.int (V_fin (T_nw T))) (congrArg Value.int (hM2.aFin)) ?_
          refine q_iload_n F 1 dX8_errand_57 rfl rfl ?_
          refine q_ishr F dX8_errand_58 ?_
          refine q_iconst F (nI 1) dX8_errand_59 (by decide) ?_
          refine q_iand F dX8_errand_60 ?_
          refine q_goto F 82 dX8_errand_61 (by decide) ?_
          refine K _ _ _ _ ?_ dX8_errand_82 rfl
          have e : aErrand T (nI p) (nI w) = ((V_fin (T_nw T) >>> (nI p &&& 31)) &&& nI 1, T) := by
            rw [aErrand, hxp, c_5]
            rw [if_neg (by decide), if_neg (i_ne c_31 (by omega) (by omega)), if_pos (by rw [c_48])]
          rw [e]
          exact ⟨rfl, hM, fun _ _ => rfl⟩
      · refine q_aload_n F 0 dX8_errand_34 rfl rfl ?_
        refine gX8_7 F dX8_errand_35 sh_202 rfl ?_
        refine q_bipush F (nI 25) dX8_errand_38 (by decide) ?_
        refine q_iload_n F 1 dX8_errand_40 rfl rfl ?_
        refine n_iadd F dX8_errand_41 ?_
        refine q_iald F dX8_errand_42 sh_203 (by omega) (by decide) ?_
        refine q_top (.int (V_gl (T_nw T) p)) (congrArg Value.int (hX.aGl hpp)) ?_
        refine q_goto F 82 dX8_errand_43 (by decide) ?_
        refine K _ _ _ _ ?_ dX8_errand_82 rfl
        have e : aErrand T (nI p) (nI w) = (V_gl (T_nw T) p, T) := by
          rw [aErrand, hxp, c_5]
          rw [if_neg (by decide), if_pos (by rw [c_31])]
        rw [e]
        exact ⟨rfl, hM, fun _ _ => rfl⟩
    · refine q_ldc F dX8_errand_20 wX8_52 ?_
      refine K _ _ _ _ ?_ dX8_errand_22 rfl
      have e : aErrand T (nI p) w = (sBAD, T) := by
        rw [aErrand, hxp, c_5]
        simp [wi_n c_17]
      rw [e]
      exact ⟨rfl, hM, fun _ _ => rfl⟩
set_option maxHeartbeats 4000000 in
set_option maxRecDepth 100000 in
theorem m_copy0 {G : vm_G} {σ : vm_M} {f t : Nat} (hf : f < 4) (ht : t < 4) (hft : f ≠ t) : vm_RV G 0 mX8_copy0 [.ref 202, .int (nI f), .int (nI t)] σ (fun σ' => (∀ j, j < 31 → σ' 203 (31 * t + j) = σ 203 (31 * f + j)) ∧ (∀ o, o ≠ 203 → σ' o = σ o) ∧ (∀ j, j < 31 * t ∨ 31 * t + 31 ≤ j → σ' 203 j = σ 203 j)) := by
  refine vm_void (y := mX8_copy0) (by decide) (Nat.le_of_ble_eq_true rfl) (ls0 := [some (.ref 202), some (.int (nI f)), some (.int (nI t)), none]) rfl rfl (fun C F K => ?_)
  have F : vm_F G C cX8_copy0 RX8 4 _ := F
  show vm_Ex G C 4 0 [some (.ref 202), some (.int (nI f)), some (.int (nI t)), none] [] _
  have L : ∀ k i, i + k = 31 → ∀ σ2 : vm_M, (∀ j, j < i → σ2 203 (31 * t + j) = σ 203 (31 * f + j)) → (∀ o, o ≠ 203 → σ2 o = σ o) → (∀ j, j < 31 * t ∨ 31 * t + i ≤ j → σ2 203 j = σ 203 j) → vm_Ex G C 4 2 [some (.ref 202), some (.int (nI f)), some (.int (nI t)), some (.int (nI i))] [] σ2 := by
    intro k
    induction k with
    | zero =>
      intro i hi σ2 g1 g2 g3
      refine q_iload_n F 3 dX8_copy0_2 rfl rfl ?_
      refine q_bipush F (nI 31) dX8_copy0_3 (by decide) ?_
      refine n_ge F 36 dX8_copy0_5 (by decide) (by omega) (by omega) (fun c_5 => ?_) (fun c_5 => ?_)
      · refine K _ _ _ ?_ dX8_copy0_36
        have e : i = 31 := by omega
        subst e
        exact ⟨g1, g2, g3⟩
      · omega
    | succ k ih =>
      intro i hi σ2 g1 g2 g3
      refine q_iload_n F 3 dX8_copy0_2 rfl rfl ?_
      refine q_bipush F (nI 31) dX8_copy0_3 (by decide) ?_
      refine n_ge F 36 dX8_copy0_5 (by decide) (by omega) (by omega) (fun c_5 => ?_) (fun c_5 => ?_)
      · omega
      · refine q_aload_n F 0 dX8_copy0_8 rfl rfl ?_
        refine gX8_7 F dX8_copy0_9 sh_202 rfl ?_
        refine q_bipush F (nI 31) dX8_copy0_12 (by decide) ?_
        refine q_iload_n F 2 dX8_copy0_14 rfl rfl ?_
        refine n_imul F dX8_copy0_15 ?_
        refine q_iload_n F 3 dX8_copy0_16 rfl rfl ?_
        refine n_iadd F dX8_copy0_17 ?_
        refine q_aload_n F 0 dX8_copy0_18 rfl rfl ?_
        refine gX8_7 F dX8_copy0_19 sh_202 rfl ?_
        refine q_bipush F (nI 31) dX8_copy0_22 (by decide) ?_
        refine q_iload_n F 1 dX8_copy0_24 rfl rfl ?_
        refine n_imul F dX8_copy0_25 ?_
        refine q_iload_n F 3 dX8_copy0_26 rfl rfl ?_
        refine n_iadd F dX8_copy0_27 ?_
        refine q_iald F dX8_copy0_28 sh_203 (by omega) (by decide) ?_
        refine q_top (.int (σ 203 (31 * f + i))) (congrArg Value.int (g3 _ (by omega))) ?_
        refine q_iast F dX8_copy0_29 sh_203 (by omega) (by decide) ?_
        refine q_iinc3 F _ dX8_copy0_30 (nI_inc _) (by decide) rfl ?_
        refine q_goto F 2 dX8_copy0_33 (by decide) ?_
        refine ih (i + 1) (by omega) _ ?_ ?_ ?_
        · intro j hj
          by_cases e : j = i
          · rw [e]; simp [vm_upd, upd]
          · rw [vm_upd_k _ _ _ (by omega)]; exact g1 j (by omega)
        · intro o ho
          rw [vm_upd_n _ _ _ ho]; exact g2 o ho
        · intro j hj
          rw [vm_upd_k _ _ _ (by omega)]; exact g3 j (by omega)
  refine q_iconst F (nI 0) dX8_copy0_0 (by decide) ?_
  refine q_istore_n3 F dX8_copy0_1 (by decide) rfl ?_
  exact L 31 0 (by omega) _ (fun j hj => absurd hj (Nat.not_lt_zero _)) (fun _ _ => rfl) (fun _ _ => rfl)
/-- only what is tried has changed -/
def mTr3 (σ σ' : vm_M) : Prop := (∀ o, o ≠ 203 → σ' o = σ o) ∧ ∀ j, j < 93 → σ' 203 j = σ 203 j
theorem mTr3.tr {σ σ1 σ2 : vm_M} (h : mTr3 σ σ1) (h2 : mTr3 σ1 σ2) : mTr3 σ σ2 := ⟨fun o ho => (h2.1 o ho).trans (h.1 o ho), fun k hk => (h2.2 k hk).trans (h.2 k hk)⟩
theorem mTr3.rf {σ : vm_M} : mTr3 σ σ := ⟨fun _ _ => rfl, fun _ _ => rfl⟩
theorem mFr.t3 {σ σ1 : vm_M} (h : mFr σ σ1 93) : mTr3 σ σ1 := ⟨h.1, fun k hk => h.2 k (by omega)⟩
theorem mFix.t3 {σ σ' : vm_M} {v : vm_V} (h : mFix σ 0 v) (hf : mTr3 σ σ') (hn : V_n v ≤ 6) : mFix σ' 0 v := by
  obtain ⟨h1, h2, h3, h4⟩ := h
  have f := hf.2
  refine ⟨(f _ (by omega)).trans h1, (f _ (by omega)).trans h2, (f _ (by omega)).trans h3, fun p hp => ?_⟩
  obtain ⟨h5, h6⟩ := h4 p hp
  exact ⟨(f _ (by omega)).trans h5, (f _ (by omega)).trans h6⟩
theorem mSec.mv {σ σ' : vm_M} {b : Nat} {v : vm_V} (h : mSec σ b v) (hn : V_n v ≤ 6) (b' : Nat) (hf : ∀ j, 1 ≤ j → j < 31 → σ' 203 (b' + j) = σ 203 (b + j)) : mSec σ' b' v := by
  obtain ⟨⟨h1, h2, h3, h4⟩, h5, h6⟩ := h
  refine ⟨⟨(hf _ (by omega) (by omega)).trans h1, (hf _ (by omega) (by omega)).trans h2, (hf _ (by omega) (by omega)).trans h3, fun p hp => ?_⟩, (hf _ (by omega) (by omega)).trans h5, h6.fr hn 203 (fun k hk => ?_)⟩
  · obtain ⟨h7, h8⟩ := h4 p hp
    rw [Nat.add_assoc] at h7 h8
    rw [Nat.add_assoc, Nat.add_assoc]
    exact ⟨(hf _ (by omega) (by omega)).trans h7, (hf _ (by omega) (by omega)).trans h8⟩
  · rw [Nat.add_assoc, Nat.add_assoc]
    exact hf _ (by omega) (by omega)
theorem MInv.t3 {σ σ' : vm_M} {T : vm_T} (h : MInv σ T) (hI : SInv T) (hf : mTr3 σ σ') : MInv σ' T := by
  obtain ⟨h1, h2, ⟨h3, h9⟩, h4, h5, h6, h7, h8⟩ := h
  obtain ⟨e, f⟩ := hf
  refine ⟨?_, ?_, ⟨(f _ (by omega)).trans h3, h9.mv hI.1.1.1 0 (fun j _ hj => f _ (by omega))⟩, ?_, ?_, ?_, ?_, ?_⟩
  · unfold mRows; rw [e 206 (by omega), e 207 (by omega), e 208 (by omega)]; exact h1
  · unfold mTape; rw [e 202 (by omega), e 205 (by omega)]; exact h2
  · unfold mPast mMov at *; rw [e 202 (by omega), e 204 (by omega)]; exact h4
  · intro k hk
    obtain ⟨a1, a2⟩ := h5 k hk
    exact ⟨(f _ (by omega)).trans a1, fun z => (a2 z).mv (hI.2.2.2.2.2.1 k hk z).1.1.1 _ (fun j _ hj => f _ (by omega))⟩
  · unfold mTr; rw [e 202 (by omega), e 209 (by omega)]; exact h6
  · rw [e 202 (by omega)]; exact h7
  · rw [e 202 (by omega)]; exact h8
/-- what is tried begins as the path is now -/
theorem mTried {σ σ' : vm_M} {v : vm_V} (hn : V_n v ≤ 6) (hX : mFix σ 0 v) (hM : mMov σ 203 (0 + 5) v) (g1 : ∀ j, j < 31 → σ' 203 (31 * 3 + j) = σ 203 (31 * 0 + j)) (g2 : ∀ o, o ≠ 203 → σ' o = σ o) (g3 : ∀ j, j < 31 * 3 ∨ 31 * 3 + 31 ≤ j → σ' 203 j = σ 203 j) : mMov σ' 203 (93 + 5) v ∧ mFix σ' 0 v ∧ mTr3 σ σ' := by
  have hf : mTr3 σ σ' := ⟨g2, fun j hj => g3 j (by omega)⟩
  refine ⟨hM.fr hn 203 (fun k hk => ?_), hX.t3 hf hn, hf⟩
  have := g1 (5 + k) (by omega)
  rw [show 31 * 3 + (5 + k) = 93 + 5 + k by omega, show 31 * 0 + (5 + k) = 0 + 5 + k by omega] at this
  exact this
theorem sHs_s (i : Nat) (v : vm_V) : sHs (i + 1) v = sH (sHs i v) := rfl
theorem mFix.hs {σ : vm_M} {b i : Nat} {v : vm_V} (h : mFix σ b v) : mFix σ b (sHs i v) := by
  obtain ⟨a1, a2, a3, a4, a5⟩ := sSame_Hs v i
  unfold mFix at *
  rw [a1, a2, a3, a4, a5]
  exact h
theorem m_halfs {G : vm_G} {σ : vm_M} {v : vm_V} {i b : Nat} (hX : mFix σ 0 v) (hM : mMov σ 203 (b + 5) (sHs i v)) (hb : b = 0 ∨ b = 93) (h : sOk v) : vm_RV G 2 mX8_half [.ref 202, .int (nI b)] σ (fun σ' => mMov σ' 203 (b + 5) (sHs (i + 1) v) ∧ mFr σ σ' b) := m_half hX.hs hM hb (sOk_Hs h i)
set_option maxHeartbeats 4000000 in
set_option maxRecDepth 100000 in
theorem m_ahead {G : vm_G} {σ : vm_M} {T : vm_T} (hM : MInv σ T) (hI : SInv T) (x n w : Int32) : vm_RI G 3 mX8_ahead [.ref 202, .int x, .int n, .int w] σ (mPost σ (aAhead T x n w)) := by
  refine vm_int (y := mX8_ahead) (by decide) (Nat.le_of_ble_eq_true rfl) (ls0 := [some (.ref 202), some (.int x), some (.int n), some (.int w), none]) rfl rfl (fun C F K => ?_)
  have F : vm_F G C cX8_ahead RX8 5 _ := F
  show vm_Ex G C 5 0 [some (.ref 202), some (.int x), some (.int n), some (.int w), none] [] _
  obtain ⟨hR, hTp, ⟨hHp, hS⟩, hPs, hIm, hTr, hFl, hFn⟩ := id hM
  have hX := hS.1
  have hM2 : mMov σ 203 (0 + 5) (T_nw T) := hS.2.2
  have hG := hI.1
  have hOk := hG.1
  have hn : V_n (T_nw T) ≤ 6 := hOk.1
  refine q_aload_n F 0 dX8_ahead_0 rfl rfl ?_
  refine q_iload_n F 1 dX8_ahead_1 rfl rfl ?_
  refine iX8_168 F dX8_ahead_2 (m_isPerson hX.aN hn _) (by decide) sh_202 rfl rfl (Nat.le_of_ble_eq_true rfl) (fun v_2 σ_2 h_2 => ?_)
  obtain ⟨rfl, h_2⟩ := h_2
  obtain rfl := h_2.symm
  refine b_eq F 27 dX8_ahead_5 (by decide) (fun c_5 => ?_) (fun c_5 => ?_)
  · refine q_ldc F dX8_ahead_27 wX8_52 ?_
    refine K _ _ _ _ ?_ dX8_ahead_29 rfl
    have e : aAhead T x n w = (sBAD, T) := by
      simp [aAhead, c_5]
    rw [e]
    exact ⟨rfl, hM, fun _ _ => rfl⟩
  · obtain ⟨p, hpp, rfl⟩ := wi_of c_5
    have hxp := xN_nI (show p < 2 ^ 31 by omega)
    refine q_iload_n F 2 dX8_ahead_8 rfl rfl ?_
    refine iX8_183 F dX8_ahead_9 (m_isAhead _) (by decide) rfl rfl (Nat.le_of_ble_eq_true rfl) (fun v_9 σ_9 h_9 => ?_)
    obtain ⟨rfl, h_9⟩ := h_9
    obtain rfl := h_9.symm
    refine b_eq F 27 dX8_ahead_12 (by decide) (fun c_12 => ?_) (fun c_12 => ?_)
    · refine q_ldc F dX8_ahead_27 wX8_52 ?_
      refine K _ _ _ _ ?_ dX8_ahead_29 rfl
      have e : aAhead T (nI p) n w = (sBAD, T) := by
        simp [aAhead, c_5, c_12]
      rw [e]
      exact ⟨rfl, hM, fun _ _ => rfl⟩
    · obtain ⟨m, hpm, rfl⟩ := wi_of c_12
      have hxm := xN_nI (show m < 2 ^ 31 by omega)
      refine q_iload_n F 3 dX8_ahead_15 rfl rfl ?_
      refine q_i2l F dX8_ahead_16 ?_
      refine q_lconst F (lN 0) dX8_ahead_17 (by decide) ?_
      refine q_ldc2 F dX8_ahead_18 wX8_50 ?_
      refine iX8_42 F dX8_ahead_21 (m_in _ _ _) (by decide) rfl rfl (Nat.le_of_ble_eq_true rfl) (fun v_21 σ_21 h_21 => ?_)
      obtain ⟨rfl, h_21⟩ := h_21
      obtain rfl := h_21.symm
      refine q_top (.int (bI (wi w 3))) (congrArg Value.int (by rw [in_wi (n := 3) (by decide) (by decide)])) ?_
      refine b_ne F 30 dX8_ahead_24 (by decide) (fun c_24 => ?_) (fun c_24 => ?_)
      · obtain ⟨w, hpw, rfl⟩ := wi_of c_24
        have hxw := xN_nI (show w < 2 ^ 31 by omega)
        refine q_aload_n F 0 dX8_ahead_30 rfl rfl ?_
        refine q_iconst F (nI 0) dX8_ahead_31 (by decide) ?_
        refine q_iconst F (nI 3) dX8_ahead_32 (by decide) ?_
        refine iX8_186 F dX8_ahead_33 (m_copy0 (f := 0) (t := 3) (by decide) (by decide) (by decide)) (by decide) sh_202 rfl rfl (Nat.le_of_ble_eq_true rfl) (fun σ_33 h_33 => ?_)
        obtain ⟨g1, g2, g3⟩ := h_33
        obtain ⟨hMt, hXt, hFt⟩ := mTried hn hX hM2 g1 g2 g3
        refine q_iconst F (nI 0) dX8_ahead_36 (by decide) ?_
        refine q_istore4 F dX8_ahead_37 (by decide) rfl ?_
        have L : ∀ k i, i + k = m → ∀ σ2 : vm_M, mMov σ2 203 (93 + 5) (sHs i (T_nw T)) → mTr3 σ σ2 → vm_Ex G C 5 39 [some (.ref 202), some (.int (nI p)), some (.int (nI m)), some (.int (nI w)), some (.int (nI i))] [] σ2 := by
          intro k
          induction k with
          | zero =>
            intro i hi σ2 hMi hf
            refine q_iload F 4 dX8_ahead_39 rfl ?_
            refine q_iload_n F 2 dX8_ahead_41 rfl rfl ?_
            refine n_ge F 57 dX8_ahead_42 (by decide) (by omega) (by omega) (fun c_42 => ?_) (fun c_42 => ?_)
            · refine q_aload_n F 0 dX8_ahead_57 rfl rfl ?_
              refine q_bipush F (nI 93) dX8_ahead_58 (by decide) ?_
              refine q_iload_n F 1 dX8_ahead_60 rfl rfl ?_
              refine q_iload_n F 3 dX8_ahead_61 rfl rfl ?_
              refine iX8_171 F dX8_ahead_62 (m_factOf hMi (by omega) (show p < V_n (sHs i (T_nw T)) by rw [sHs_n]; exact hpp) (by rw [sHs_n]; exact hn) hpw) (by decide) sh_202 rfl rfl (Nat.le_of_ble_eq_true rfl) (fun v_62 σ_62 h_62 => ?_)
              obtain ⟨rfl, rfl⟩ := h_62
              refine K _ _ _ _ ?_ dX8_ahead_65 rfl
              have e : aAhead T (nI p) (nI m) (nI w) = (sTell (sHs m (T_nw T)) p (nI w), T) := by
                rw [aAhead, hxp, hxm, c_5, c_12]
                simp
              rw [e, show m = i by omega]
              exact ⟨rfl, hM.t3 hI hf, fun o ho => hf.1 o (by omega)⟩
            · omega
          | succ k ih =>
            intro i hi σ2 hMi hf
            refine q_iload F 4 dX8_ahead_39 rfl ?_
            refine q_iload_n F 2 dX8_ahead_41 rfl rfl ?_
            refine n_ge F 57 dX8_ahead_42 (by decide) (by omega) (by omega) (fun c_42 => ?_) (fun c_42 => ?_)
            · omega
            · refine q_aload_n F 0 dX8_ahead_45 rfl rfl ?_
              refine q_bipush F (nI 93) dX8_ahead_46 (by decide) ?_
              refine iX8_165 F dX8_ahead_48 (m_halfs (b := 93) (hX.t3 hf hn) hMi (Or.inr rfl) hOk) (by decide) sh_202 rfl rfl (Nat.le_of_ble_eq_true rfl) (fun σ_48 h_48 => ?_)
              obtain ⟨hM3, hf3⟩ := h_48
              refine q_iinc4 F _ dX8_ahead_51 (nI_inc _) (by decide) rfl ?_
              refine q_goto F 39 dX8_ahead_54 (by decide) ?_
              exact ih (i + 1) (by omega) _ hM3 (hf.tr hf3.t3)
        exact L m 0 (by omega) _ hMt hFt
      · refine q_ldc F dX8_ahead_27 wX8_52 ?_
        refine K _ _ _ _ ?_ dX8_ahead_29 rfl
        have e : aAhead T (nI p) (nI m) w = (sBAD, T) := by
          rw [aAhead, c_5, c_12, tell_bad c_24]
          simp
        rw [e]
        exact ⟨rfl, hM, fun _ _ => rfl⟩
theorem fin_bit : ∀ m, m < 64 → ∀ e, e < 6 → (nI m &&& sBit e = sBit e ↔ m.testBit e = true) := by decide +kernel
theorem fin_of {v : vm_V} (h : sG v) : ∃ m, m < 64 ∧ m < 2 ^ V_n v ∧ V_fin v = nI m := by
  obtain ⟨m, hm, e⟩ := h.2.2.1
  have := pow6 h.1.1
  exact ⟨m, by omega, hm, e⟩
set_option maxHeartbeats 4000000 in
set_option maxRecDepth 100000 in
theorem m_done {G : vm_G} {σ : vm_M} {T : vm_T} (hM : MInv σ T) (hI : SInv T) (x w : Int32) : vm_RI G 3 mX8_done [.ref 202, .int x, .int w] σ (mPost σ (aDone T x w)) := by
  refine vm_int (y := mX8_done) (by decide) (Nat.le_of_ble_eq_true rfl) (ls0 := [some (.ref 202), some (.int x), some (.int w), none]) rfl rfl (fun C F K => ?_)
  have F : vm_F G C cX8_done RX8 4 _ := F
  show vm_Ex G C 4 0 [some (.ref 202), some (.int x), some (.int w), none] [] _
  obtain ⟨hR, hTp, ⟨hHp, hS⟩, hPs, hIm, hTr, hFl, hFn⟩ := id hM
  have hX := hS.1
  have hM2 : mMov σ 203 (0 + 5) (T_nw T) := hS.2.2
  have hG := hI.1
  have hOk := hG.1
  have hn : V_n (T_nw T) ≤ 6 := hOk.1
  refine q_aload_n F 0 dX8_done_0 rfl rfl ?_
  refine q_iload_n F 1 dX8_done_1 rfl rfl ?_
  refine iX8_168 F dX8_done_2 (m_isPerson hX.aN hn _) (by decide) sh_202 rfl rfl (Nat.le_of_ble_eq_true rfl) (fun v_2 σ_2 h_2 => ?_)
  obtain ⟨rfl, h_2⟩ := h_2
  obtain rfl := h_2.symm
  refine b_eq F 18 dX8_done_5 (by decide) (fun c_5 => ?_) (fun c_5 => ?_)
  · refine q_ldc F dX8_done_18 wX8_52 ?_
    refine K _ _ _ _ ?_ dX8_done_20 rfl
    have e : aDone T x w = (sBAD, T) := by
      simp [aDone, c_5]
    rw [e]
    exact ⟨rfl, hM, fun _ _ => rfl⟩
  · obtain ⟨p, hpp, rfl⟩ := wi_of c_5
    have hxp := xN_nI (show p < 2 ^ 31 by omega)
    refine q_iload_n F 2 dX8_done_8 rfl rfl ?_
    refine q_i2l F dX8_done_9 ?_
    refine q_lconst F (lN 0) dX8_done_10 (by decide) ?_
    refine q_lconst F (lN 1) dX8_done_11 (by decide) ?_
    refine iX8_42 F dX8_done_12 (m_in _ _ _) (by decide) rfl rfl (Nat.le_of_ble_eq_true rfl) (fun v_12 σ_12 h_12 => ?_)
    obtain ⟨rfl, h_12⟩ := h_12
    obtain rfl := h_12.symm
    refine q_top (.int (bI (wi w 2))) (congrArg Value.int (by rw [in_wi (n := 2) (by decide) (by decide)])) ?_
    refine b_ne F 21 dX8_done_15 (by decide) (fun c_15 => ?_) (fun c_15 => ?_)
    · obtain ⟨w, hpw, rfl⟩ := wi_of c_15
      have hxw := xN_nI (show w < 2 ^ 31 by omega)
      refine q_aload_n F 0 dX8_done_21 rfl rfl ?_
      refine q_iconst F (nI 0) dX8_done_22 (by decide) ?_
      refine q_iconst F (nI 3) dX8_done_23 (by decide) ?_
      refine iX8_186 F dX8_done_24 (m_copy0 (f := 0) (t := 3) (by decide) (by decide) (by decide)) (by decide) sh_202 rfl rfl (Nat.le_of_ble_eq_true rfl) (fun σ_24 h_24 => ?_)
      obtain ⟨g1, g2, g3⟩ := h_24
      obtain ⟨hMt, hXt, hFt⟩ := mTried hn hX hM2 g1 g2 g3
      refine q_iconst F (nI 0) dX8_done_27 (by decide) ?_
      refine q_istore_n3 F dX8_done_28 (by decide) rfl ?_
      have L : ∀ k i, i + k = 120 → ∀ σ2 : vm_M, mMov σ2 203 (93 + 5) (sHs i (T_nw T)) → mTr3 σ σ2 → (∀ j, j < i → ¬ V_fin (sHs j (T_nw T)) &&& sBit p = sBit p) → vm_Ex G C 4 29 [some (.ref 202), some (.int (nI p)), some (.int (nI w)), some (.int (nI i))] [] σ2 := by
        intro k
        induction k with
        | zero =>
          intro i hi σ2 hMi hf hh
          refine q_iload_n F 3 dX8_done_29 rfl rfl ?_
          refine q_bipush F (nI 120) dX8_done_30 (by decide) ?_
          refine n_ge F 61 dX8_done_32 (by decide) (by omega) (by omega) (fun c_32 => ?_) (fun c_32 => ?_)
          · obtain ⟨m, hm64, -, hfm⟩ := fin_of (sG_Hs hG i)
            refine q_aload_n F 0 dX8_done_61 rfl rfl ?_
            refine gX8_7 F dX8_done_62 sh_202 rfl ?_
            refine q_bipush F (nI 98) dX8_done_65 (by decide) ?_
            refine q_iald F dX8_done_67 sh_203 (by omega) (by decide) ?_
            refine q_top (.int (nI m)) (congrArg Value.int ((hMi.aFin).trans hfm)) ?_
            refine q_iload_n F 1 dX8_done_68 rfl rfl ?_
            refine iX8_145 F dX8_done_69 (m_has hm64 (by omega)) (by decide) rfl rfl (Nat.le_of_ble_eq_true rfl) (fun v_69 σ_69 h_69 => ?_)
            obtain ⟨rfl, rfl⟩ := h_69
            refine b_ne F 80 dX8_done_72 (by decide) (fun c_72 => ?_) (fun c_72 => ?_)
            · have c0 : V_fin (sHs i (T_nw T)) &&& sBit p = sBit p := by
                rw [hfm, fin_bit _ hm64 _ (by omega), c_72]
              have eS : sU (sBit p) (T_nw T) 120 = i := sF_at (fun j hj => by simpa using hh j hj) (by simpa using c0) (by omega)
              obtain ⟨z0, hz0n, hz0e⟩ := (sG_Hs hG i).2.1 p (by rw [sHs_n]; exact hpp)
              have hz06 : z0 < 6 := by
                have h := hz0n
                rw [sHs_n] at h
                omega
              refine q_iload_n F 2 dX8_done_80 rfl rfl ?_
              refine z_ne F 88 dX8_done_81 (by decide) (by omega) (fun c_81 => ?_) (fun c_81 => ?_)
              · refine q_aload_n F 0 dX8_done_88 rfl rfl ?_
                refine q_bipush F (nI 93) dX8_done_89 (by decide) ?_
                refine q_iload_n F 1 dX8_done_91 rfl rfl ?_
                refine iX8_177 F dX8_done_92 (m_holder0 (b := 93) (z := z0) (by omega) (by omega) ((hMi.aEr hz0n).trans (congrArg nI hz0e))) (by decide) sh_202 rfl rfl (Nat.le_of_ble_eq_true rfl) (fun v_92 σ_92 h_92 => ?_)
                obtain ⟨h0, hr, h01, h02, h03, rfl⟩ := h_92
                obtain rfl := hr
                have hH := hold_of hMi (sG_Hs hG i) (show p < V_n (sHs i (T_nw T)) by rw [sHs_n]; exact hpp) hz0n h01 h02 h03
                refine K _ _ _ _ ?_ dX8_done_95 rfl
                have e : aDone T (nI p) (nI w) = (nI h0, T) := by
                  rw [aDone, hxp, c_5, c_15]
                  rw [eS, if_neg (by decide), if_neg (by omega), if_neg (i_ne c_81 (by omega) (by omega)), hH]
                rw [e]
                exact ⟨rfl, hM.t3 hI hf, fun o ho => hf.1 o (by omega)⟩
              · refine q_iload_n F 3 dX8_done_84 rfl rfl ?_
                refine q_goto F 95 dX8_done_85 (by decide) ?_
                refine K _ _ _ _ ?_ dX8_done_95 rfl
                have e : aDone T (nI p) (nI w) = (nI i, T) := by
                  rw [aDone, hxp, c_5, c_15]
                  rw [eS, if_neg (by decide), if_neg (by omega), if_pos (by rw [c_81])]
                rw [e]
                exact ⟨rfl, hM.t3 hI hf, fun o ho => hf.1 o (by omega)⟩
            · have c0 : ¬ V_fin (sHs i (T_nw T)) &&& sBit p = sBit p := by
                rw [hfm, fin_bit _ hm64 _ (by omega), c_72]
                decide
              have eS : sU (sBit p) (T_nw T) 120 = 121 := sF_none (fun j hj => by
                rcases Nat.lt_or_ge j i with q | q
                · simpa using hh j q
                · rw [show j = i by omega]; simpa using c0)
              refine q_ldc F dX8_done_75 wX8_19 ?_
              refine q_goto F 95 dX8_done_77 (by decide) ?_
              refine K _ _ _ _ ?_ dX8_done_95 rfl
              have e : aDone T (nI p) (nI w) = (sNONE, T) := by
                rw [aDone, hxp, c_5, c_15]
                simp [eS]
              rw [e]
              exact ⟨rfl, hM.t3 hI hf, fun o ho => hf.1 o (by omega)⟩
          · omega
        | succ k ih =>
          intro i hi σ2 hMi hf hh
          refine q_iload_n F 3 dX8_done_29 rfl rfl ?_
          refine q_bipush F (nI 120) dX8_done_30 (by decide) ?_
          refine n_ge F 61 dX8_done_32 (by decide) (by omega) (by omega) (fun c_32 => ?_) (fun c_32 => ?_)
          · omega
          · obtain ⟨m, hm64, -, hfm⟩ := fin_of (sG_Hs hG i)
            refine q_aload_n F 0 dX8_done_35 rfl rfl ?_
            refine gX8_7 F dX8_done_36 sh_202 rfl ?_
            refine q_bipush F (nI 98) dX8_done_39 (by decide) ?_
            refine q_iald F dX8_done_41 sh_203 (by omega) (by decide) ?_
            refine q_top (.int (nI m)) (congrArg Value.int ((hMi.aFin).trans hfm)) ?_
            refine q_iload_n F 1 dX8_done_42 rfl rfl ?_
            refine iX8_145 F dX8_done_43 (m_has hm64 (by omega)) (by decide) rfl rfl (Nat.le_of_ble_eq_true rfl) (fun v_43 σ_43 h_43 => ?_)
            obtain ⟨rfl, rfl⟩ := h_43
            refine b_ne F 61 dX8_done_46 (by decide) (fun c_46 => ?_) (fun c_46 => ?_)
            · refine q_aload_n F 0 dX8_done_61 rfl rfl ?_
              refine gX8_7 F dX8_done_62 sh_202 rfl ?_
              refine q_bipush F (nI 98) dX8_done_65 (by decide) ?_
              refine q_iald F dX8_done_67 sh_203 (by omega) (by decide) ?_
              refine q_top (.int (nI m)) (congrArg Value.int ((hMi.aFin).trans hfm)) ?_
              refine q_iload_n F 1 dX8_done_68 rfl rfl ?_
              refine iX8_145 F dX8_done_69 (m_has hm64 (by omega)) (by decide) rfl rfl (Nat.le_of_ble_eq_true rfl) (fun v_69 σ_69 h_69 => ?_)
              obtain ⟨rfl, rfl⟩ := h_69
              refine b_ne F 80 dX8_done_72 (by decide) (fun c_72 => ?_) (fun c_72 => ?_)
              · have c0 : V_fin (sHs i (T_nw T)) &&& sBit p = sBit p := by
                  rw [hfm, fin_bit _ hm64 _ (by omega), c_72]
                have eS : sU (sBit p) (T_nw T) 120 = i := sF_at (fun j hj => by simpa using hh j hj) (by simpa using c0) (by omega)
                obtain ⟨z0, hz0n, hz0e⟩ := (sG_Hs hG i).2.1 p (by rw [sHs_n]; exact hpp)
                have hz06 : z0 < 6 := by
                  have h := hz0n
                  rw [sHs_n] at h
                  omega
                refine q_iload_n F 2 dX8_done_80 rfl rfl ?_
                refine z_ne F 88 dX8_done_81 (by decide) (by omega) (fun c_81 => ?_) (fun c_81 => ?_)
                · refine q_aload_n F 0 dX8_done_88 rfl rfl ?_
                  refine q_bipush F (nI 93) dX8_done_89 (by decide) ?_
                  refine q_iload_n F 1 dX8_done_91 rfl rfl ?_
                  refine iX8_177 F dX8_done_92 (m_holder0 (b := 93) (z := z0) (by omega) (by omega) ((hMi.aEr hz0n).trans (congrArg nI hz0e))) (by decide) sh_202 rfl rfl (Nat.le_of_ble_eq_true rfl) (fun v_92 σ_92 h_92 => ?_)
                  obtain ⟨h0, hr, h01, h02, h03, rfl⟩ := h_92
                  obtain rfl := hr
                  have hH := hold_of hMi (sG_Hs hG i) (show p < V_n (sHs i (T_nw T)) by rw [sHs_n]; exact hpp) hz0n h01 h02 h03
                  refine K _ _ _ _ ?_ dX8_done_95 rfl
                  have e : aDone T (nI p) (nI w) = (nI h0, T) := by
                    rw [aDone, hxp, c_5, c_15]
                    rw [eS, if_neg (by decide), if_neg (by omega), if_neg (i_ne c_81 (by omega) (by omega)), hH]
                  rw [e]
                  exact ⟨rfl, hM.t3 hI hf, fun o ho => hf.1 o (by omega)⟩
                · refine q_iload_n F 3 dX8_done_84 rfl rfl ?_
                  refine q_goto F 95 dX8_done_85 (by decide) ?_
                  refine K _ _ _ _ ?_ dX8_done_95 rfl
                  have e : aDone T (nI p) (nI w) = (nI i, T) := by
                    rw [aDone, hxp, c_5, c_15]
                    rw [eS, if_neg (by decide), if_neg (by omega), if_pos (by rw [c_81])]
                  rw [e]
                  exact ⟨rfl, hM.t3 hI hf, fun o ho => hf.1 o (by omega)⟩
              · exact absurd (c_46.symm.trans c_72) (by decide)
            · have c0 : ¬ V_fin (sHs i (T_nw T)) &&& sBit p = sBit p := by
                rw [hfm, fin_bit _ hm64 _ (by omega), c_46]
                decide
              refine q_aload_n F 0 dX8_done_49 rfl rfl ?_
              refine q_bipush F (nI 93) dX8_done_50 (by decide) ?_
              refine iX8_165 F dX8_done_52 (m_halfs (b := 93) (hX.t3 hf hn) hMi (Or.inr rfl) hOk) (by decide) sh_202 rfl rfl (Nat.le_of_ble_eq_true rfl) (fun σ_52 h_52 => ?_)
              obtain ⟨hM3, hf3⟩ := h_52
              refine q_iinc3 F _ dX8_done_55 (nI_inc _) (by decide) rfl ?_
              refine q_goto F 29 dX8_done_58 (by decide) ?_
              exact ih (i + 1) (by omega) _ hM3 (hf.tr hf3.t3) (fun j hj => by
                rcases Nat.lt_or_ge j i with q | q
                · exact hh j q
                · rw [show j = i by omega]; exact c0)
      exact L 120 0 (by omega) _ hMt hFt (fun j hj => absurd hj (Nat.not_lt_zero _))
    · refine q_ldc F dX8_done_18 wX8_52 ?_
      refine K _ _ _ _ ?_ dX8_done_20 rfl
      have e : aDone T (nI p) w = (sBAD, T) := by
        simp [aDone, c_5, c_15]
      rw [e]
      exact ⟨rfl, hM, fun _ _ => rfl⟩
theorem er_at {σ : vm_M} {b e : Nat} {v : vm_V} (hM : mMov σ 203 (b + 5) v) (hG : sG v) (he : e < V_n v ∨ e = 0) : ∃ z, z < 6 ∧ σ 203 (b + 13 + z) = nI e ∧ (e < V_n v → z < V_n v) := by
  by_cases h : e < V_n v
  · obtain ⟨z, hz, ez⟩ := hG.2.1 e h
    exact ⟨z, by have := hG.1.1; omega, (hM.aEr hz).trans (congrArg nI ez), fun _ => hz⟩
  · obtain ⟨-, -, -, z, hz, ez⟩ := hM
    exact ⟨z, hz, by rw [show e = 0 by omega]; exact ez, fun q => absurd q h⟩
set_option maxHeartbeats 4000000 in
set_option maxRecDepth 100000 in
theorem m_secretOf {G : vm_G} {σ : vm_M} {v : vm_V} {e m : Nat} (hX : mFix σ 0 v) (hMt : mMov σ 203 (93 + 5) v) (hG : sG v) (he : e < V_n v ∨ e = 0) (hm : m < 2 ^ 31) : vm_RI G 3 mX8_secretOf [.ref 202, .int (nI e), .int (nI m)] σ (fun r σ' => (e < V_n v → r = sS e v m) ∧ mMov σ' 203 (93 + 5) (sHs m v) ∧ mTr3 σ σ') := by
  refine vm_int (y := mX8_secretOf) (by decide) (Nat.le_of_ble_eq_true rfl) (ls0 := [some (.ref 202), some (.int (nI e)), some (.int (nI m)), none, none]) rfl rfl (fun C F K => ?_)
  have F : vm_F G C cX8_secretOf RX8 5 _ := F
  show vm_Ex G C 5 0 [some (.ref 202), some (.int (nI e)), some (.int (nI m)), none, none] [] _
  have hOk := hG.1
  have hn : V_n v ≤ 6 := hOk.1
  obtain ⟨z0, hz06, hz0e, hz0n⟩ := er_at (v := sHs 0 v) hMt (sG_Hs hG 0) (e := e) (by rw [sHs_n]; exact he)
  have L : ∀ k i, i + k = m → ∀ (σ2 : vm_M) (x : Int32), mMov σ2 203 (93 + 5) (sHs i v) → mTr3 σ σ2 → (e < V_n v → x = sS e v i) → vm_Ex G C 5 13 [some (.ref 202), some (.int (nI e)), some (.int (nI m)), some (.int x), some (.int (nI i))] [] σ2 := by
    intro k
    induction k with
    | zero =>
      intro i hi σ2 x hMi hf hx
      refine q_iload F 4 dX8_secretOf_13 rfl ?_
      refine q_iload_n F 2 dX8_secretOf_15 rfl rfl ?_
      refine n_ge F 43 dX8_secretOf_16 (by decide) (by omega) (by omega) (fun c_16 => ?_) (fun c_16 => ?_)
      · refine q_iload_n F 3 dX8_secretOf_43 rfl rfl ?_
        refine K _ _ _ _ ?_ dX8_secretOf_44 rfl
        have e9 : i = m := by omega
        subst e9
        exact ⟨hx, hMi, hf⟩
      · omega
    | succ k ih =>
      intro i hi σ2 x hMi hf hx
      refine q_iload F 4 dX8_secretOf_13 rfl ?_
      refine q_iload_n F 2 dX8_secretOf_15 rfl rfl ?_
      refine n_ge F 43 dX8_secretOf_16 (by decide) (by omega) (by omega) (fun c_16 => ?_) (fun c_16 => ?_)
      · omega
      · refine q_aload_n F 0 dX8_secretOf_19 rfl rfl ?_
        refine q_bipush F (nI 93) dX8_secretOf_20 (by decide) ?_
        refine iX8_165 F dX8_secretOf_22 (m_halfs (b := 93) (hX.t3 hf hn) hMi (Or.inr rfl) hOk) (by decide) sh_202 rfl rfl (Nat.le_of_ble_eq_true rfl) (fun σ_22 h_22 => ?_)
        obtain ⟨hM3, hf3⟩ := h_22
        obtain ⟨z0, hz06, hz0e, hz0n⟩ := er_at hM3 (sG_Hs hG (i + 1)) (e := e) (by rw [sHs_n]; exact he)
        refine q_iload_n F 3 dX8_secretOf_25 rfl rfl ?_
        refine q_iconst F (nI 1) dX8_secretOf_26 (by decide) ?_
        refine q_aload_n F 0 dX8_secretOf_27 rfl rfl ?_
        refine q_bipush F (nI 93) dX8_secretOf_28 (by decide) ?_
        refine q_iload_n F 1 dX8_secretOf_30 rfl rfl ?_
        refine iX8_177 F dX8_secretOf_31 (m_holder0 (b := 93) (z := z0) (by omega) hz06 hz0e) (by decide) sh_202 rfl rfl (Nat.le_of_ble_eq_true rfl) (fun v_31 σ_31 h_31 => ?_)
        obtain ⟨h0, hr, h01, h02, h03, rfl⟩ := h_31
        obtain rfl := hr
        have hH : e < V_n v → sHold e (sHs (i + 1) v) = h0 := fun q => hold_of hM3 (sG_Hs hG (i + 1)) (by rw [sHs_n]; exact q) (hz0n (by rw [sHs_n]; exact q)) h01 h02 h03
        refine q_ishl F dX8_secretOf_34 ?_
        refine q_ior F dX8_secretOf_35 ?_
        refine q_istore_n3 F dX8_secretOf_36 (by decide) rfl ?_
        refine q_iinc4 F _ dX8_secretOf_37 (nI_inc _) (by decide) rfl ?_
        refine q_goto F 13 dX8_secretOf_40 (by decide) ?_
        exact ih (i + 1) (by omega) _ _ hM3 (hf.tr hf3.t3) (fun q => by rw [sS, hx q, hH q]; rfl)
  refine q_iconst F (nI 1) dX8_secretOf_0 (by decide) ?_
  refine q_aload_n F 0 dX8_secretOf_1 rfl rfl ?_
  refine q_bipush F (nI 93) dX8_secretOf_2 (by decide) ?_
  refine q_iload_n F 1 dX8_secretOf_4 rfl rfl ?_
  refine iX8_177 F dX8_secretOf_5 (m_holder0 (b := 93) (z := z0) (by omega) hz06 hz0e) (by decide) sh_202 rfl rfl (Nat.le_of_ble_eq_true rfl) (fun v_5 σ_5 h_5 => ?_)
  obtain ⟨h0, hr, h01, h02, h03, rfl⟩ := h_5
  obtain rfl := hr
  have hH : e < V_n v → sHold e (sHs (0) v) = h0 := fun q => hold_of (v := sHs 0 v) hMt (sG_Hs hG (0)) (by rw [sHs_n]; exact q) (hz0n (by rw [sHs_n]; exact q)) h01 h02 h03
  refine q_ishl F dX8_secretOf_8 ?_
  refine q_istore_n3 F dX8_secretOf_9 (by decide) rfl ?_
  refine q_iconst F (nI 0) dX8_secretOf_10 (by decide) ?_
  refine q_istore4 F dX8_secretOf_11 (by decide) rfl ?_
  exact L m 0 (by omega) _ _ hMt mTr3.rf (fun q => by rw [sS, ← hH q]; rfl)
set_option maxHeartbeats 4000000 in
set_option maxRecDepth 100000 in
theorem m_secret {G : vm_G} {σ : vm_M} {T : vm_T} (hM : MInv σ T) (hI : SInv T) (x n : Int32) : vm_RI G 4 mX8_secret [.ref 202, .int x, .int n] σ (mPost σ (aSecret T x n)) := by
  refine vm_int (y := mX8_secret) (by decide) (Nat.le_of_ble_eq_true rfl) (ls0 := [some (.ref 202), some (.int x), some (.int n)]) rfl rfl (fun C F K => ?_)
  have F : vm_F G C cX8_secret RX8 3 _ := F
  show vm_Ex G C 3 0 [some (.ref 202), some (.int x), some (.int n)] [] _
  obtain ⟨hR, hTp, ⟨hHp, hS⟩, hPs, hIm, hTr, hFl, hFn⟩ := id hM
  have hX := hS.1
  have hM2 : mMov σ 203 (0 + 5) (T_nw T) := hS.2.2
  have hG := hI.1
  have hOk := hG.1
  have hn : V_n (T_nw T) ≤ 6 := hOk.1
  refine q_aload_n F 0 dX8_secret_0 rfl rfl ?_
  refine q_iload_n F 1 dX8_secret_1 rfl rfl ?_
  refine iX8_168 F dX8_secret_2 (m_isPerson hX.aN hn _) (by decide) sh_202 rfl rfl (Nat.le_of_ble_eq_true rfl) (fun v_2 σ_2 h_2 => ?_)
  obtain ⟨rfl, h_2⟩ := h_2
  obtain rfl := h_2.symm
  refine b_eq F 15 dX8_secret_5 (by decide) (fun c_5 => ?_) (fun c_5 => ?_)
  · refine q_ldc F dX8_secret_15 wX8_52 ?_
    refine K _ _ _ _ ?_ dX8_secret_17 rfl
    have e : aSecret T x n = (sBAD, T) := by
      simp [aSecret, c_5]
    rw [e]
    exact ⟨rfl, hM, fun _ _ => rfl⟩
  · obtain ⟨p, hpp, rfl⟩ := wi_of c_5
    have hxp := xN_nI (show p < 2 ^ 31 by omega)
    refine q_iload_n F 2 dX8_secret_8 rfl rfl ?_
    refine iX8_183 F dX8_secret_9 (m_isAhead _) (by decide) rfl rfl (Nat.le_of_ble_eq_true rfl) (fun v_9 σ_9 h_9 => ?_)
    obtain ⟨rfl, h_9⟩ := h_9
    obtain rfl := h_9.symm
    refine b_ne F 18 dX8_secret_12 (by decide) (fun c_12 => ?_) (fun c_12 => ?_)
    · obtain ⟨m, hpm, rfl⟩ := wi_of c_12
      have hxm := xN_nI (show m < 2 ^ 31 by omega)
      refine q_aload_n F 0 dX8_secret_18 rfl rfl ?_
      refine q_iconst F (nI 0) dX8_secret_19 (by decide) ?_
      refine q_iconst F (nI 3) dX8_secret_20 (by decide) ?_
      refine iX8_186 F dX8_secret_21 (m_copy0 (f := 0) (t := 3) (by decide) (by decide) (by decide)) (by decide) sh_202 rfl rfl (Nat.le_of_ble_eq_true rfl) (fun σ_21 h_21 => ?_)
      obtain ⟨g1, g2, g3⟩ := h_21
      obtain ⟨hMt, hXt, hFt⟩ := mTried hn hX hM2 g1 g2 g3
      refine q_aload_n F 0 dX8_secret_24 rfl rfl ?_
      refine q_iload_n F 1 dX8_secret_25 rfl rfl ?_
      refine q_iload_n F 2 dX8_secret_26 rfl rfl ?_
      refine iX8_189 F dX8_secret_27 (m_secretOf hXt hMt hG (Or.inl hpp) (by omega)) (by decide) sh_202 rfl rfl (Nat.le_of_ble_eq_true rfl) (fun v_27 σ_27 h_27 => ?_)
      obtain ⟨hr, hM3, hf3⟩ := h_27
      refine K _ _ _ _ ?_ dX8_secret_30 rfl
      have e : aSecret T (nI p) (nI m) = (sS p (T_nw T) m, T) := by
        rw [aSecret, hxp, hxm, c_5, c_12]
        simp
      rw [e]
      exact ⟨hr hpp, hM.t3 hI (hFt.tr hf3), fun o ho => (hFt.tr hf3).1 o (by omega)⟩
    · refine q_ldc F dX8_secret_15 wX8_52 ?_
      refine K _ _ _ _ ?_ dX8_secret_17 rfl
      have e : aSecret T (nI p) n = (sBAD, T) := by
        simp [aSecret, c_5, c_12]
      rw [e]
      exact ⟨rfl, hM, fun _ _ => rfl⟩
