set_option maxHeartbeats 4000000 in
set_option maxRecDepth 100000 in
theorem c_begin {G : vm_G} {σ : vm_M} {b : Nat} (hb : vm_pathAt b) {kd : Nat → Nat} {gl sp : Nat → Int32} {wy : Nat → Bool} {er : Nat → Nat} {top law n gn : Nat} {fin : Int32} {t l : Nat} : vm_RV G 0 mX2_begin [.ref b, .int (nI t), .int (nI l)] (vm_P σ b (kd, gl, sp, wy, er, top, law, n, gn, fin)) (fun σ' => σ' = vm_P σ b (kd, gl, sp, wy, er, t, l, 0, 0, 0)) := by
  refine vm_void (y := mX2_begin) (by decide) (Nat.le_of_ble_eq_true rfl) (ls0 := [some (.ref b), some (.int (nI t)), some (.int (nI l))]) rfl rfl (fun C F K => ?_)
  have F : vm_F G C cX2_begin RX2 3 _ := F
  show vm_Ex G C 3 0 [some (.ref b), some (.int (nI t)), some (.int (nI l))] [] _
  refine q_aload_n F 0 dX2_begin_0 rfl rfl ?_
  refine q_iload_n F 1 dX2_begin_1 rfl rfl ?_
  refine ppX2_27 F dX2_begin_2 hb ?_
  refine q_aload_n F 0 dX2_begin_5 rfl rfl ?_
  refine q_iload_n F 2 dX2_begin_6 rfl rfl ?_
  refine ppX2_31 F dX2_begin_7 hb ?_
  refine q_aload_n F 0 dX2_begin_10 rfl rfl ?_
  refine q_iconst F (nI 0) dX2_begin_11 (by decide) ?_
  refine ppX2_34 F dX2_begin_12 hb ?_
  refine q_aload_n F 0 dX2_begin_15 rfl rfl ?_
  refine q_iconst F (nI 0) dX2_begin_16 (by decide) ?_
  refine ppX2_37 F dX2_begin_17 hb ?_
  refine q_aload_n F 0 dX2_begin_20 rfl rfl ?_
  refine q_iconst F (nI 0) dX2_begin_21 (by decide) ?_
  refine q_top (.int 0) (congrArg Value.int (by decide)) ?_
  refine ppX2_40 F dX2_begin_22 hb ?_
  exact K _ _ _ (rfl) dX2_begin_25
set_option maxHeartbeats 4000000 in
set_option maxRecDepth 100000 in
theorem c_tellPerson0 {G : vm_G} {σ : vm_M} {b : Nat} (hb : vm_pathAt b) {kd : Nat → Nat} {gl sp : Nat → Int32} {wy : Nat → Bool} {er : Nat → Nat} {top law n gn : Nat} {fin : Int32} {p : Nat} (hp : p < 6) (w : Int32) : vm_RI G 0 mX2_tellPerson [.ref b, .int (nI p), .int w] (vm_P σ b (kd, gl, sp, wy, er, top, law, n, gn, fin)) (fun r σ' => r = sTell (kd, gl, sp, wy, er, top, law, n, gn, fin) p w ∧ σ' = vm_P σ b (kd, gl, sp, wy, er, top, law, n, gn, fin)) := by
  refine vm_int (y := mX2_tellPerson) (by decide) (Nat.le_of_ble_eq_true rfl) (ls0 := [some (.ref b), some (.int (nI p)), some (.int w)]) rfl rfl (fun C F K => ?_)
  have F : vm_F G C cX2_tellPerson RX2 3 _ := F
  show vm_Ex G C 3 0 [some (.ref b), some (.int (nI p)), some (.int w)] [] _
  refine q_iload_n F 2 dX2_tellPerson_0 rfl rfl ?_
  rcases sw3 w with rfl | rfl | rfl | ⟨hw, h0, h1, h2⟩
  · refine q_tableIn F 28 dX2_tellPerson_1 (off := 27) (by decide) (by decide) (by decide) (by decide) ?_
    refine q_aload_n F 0 dX2_tellPerson_28 rfl rfl ?_
    refine gpX2_18 F dX2_tellPerson_29 hb ?_
    refine q_iload_n F 1 dX2_tellPerson_32 rfl rfl ?_
    refine ld_sp F dX2_tellPerson_33 hb (by omega) ?_
    exact K _ _ _ _ (⟨by simp [sTell], rfl⟩) dX2_tellPerson_34 rfl
  · refine q_tableIn F 35 dX2_tellPerson_1 (off := 34) (by decide) (by decide) (by decide) (by decide) ?_
    refine q_aload_n F 0 dX2_tellPerson_35 rfl rfl ?_
    refine gpX2_21 F dX2_tellPerson_36 hb ?_
    refine q_iload_n F 1 dX2_tellPerson_39 rfl rfl ?_
    refine ld_wy F dX2_tellPerson_40 hb (by omega) ?_
    exact K _ _ _ _ (⟨by simp [sTell, show ¬ nI 1 = nI 0 by decide], rfl⟩) dX2_tellPerson_41 rfl
  · refine q_tableIn F 42 dX2_tellPerson_1 (off := 41) (by decide) (by decide) (by decide) (by decide) ?_
    refine q_aload_n F 0 dX2_tellPerson_42 rfl rfl ?_
    refine gpX2_24 F dX2_tellPerson_43 hb ?_
    refine q_iload_n F 1 dX2_tellPerson_46 rfl rfl ?_
    refine ld_er F dX2_tellPerson_47 hb (by omega) ?_
    exact K _ _ _ _ (⟨by simp [sTell, show ¬ nI 2 = nI 0 by decide, show ¬ nI 2 = nI 1 by decide], rfl⟩) dX2_tellPerson_48 rfl
  · refine q_tableOut F 49 dX2_tellPerson_1 hw (by decide) ?_
    refine q_ldc F dX2_tellPerson_49 wX2_43 ?_
    exact K _ _ _ _ (⟨by simp [sTell, h0, h1, h2], rfl⟩) dX2_tellPerson_51 rfl
theorem c_tellPerson {G : vm_G} {σ : vm_M} {b : Nat} (hb : vm_pathAt b) {v : vm_V} {p : Nat} (hp : p < 6) (w : Int32) : vm_RI G 0 mX2_tellPerson [.ref b, .int (nI p), .int w] (vm_P σ b v) (fun r σ' => r = sTell v p w ∧ σ' = vm_P σ b v) := by
  obtain ⟨kd, gl, sp, wy, er, top, law, n, gn, fin⟩ := v
  exact c_tellPerson0 hb hp w
set_option maxHeartbeats 4000000 in
set_option maxRecDepth 100000 in
theorem c_hasSomebodyAt {G : vm_G} {σ : vm_M} {b : Nat} (hb : vm_pathAt b) {kd : Nat → Nat} {gl sp : Nat → Int32} {wy : Nat → Bool} {er : Nat → Nat} {top law n gn : Nat} {fin : Int32} (hn : n ≤ 6) (x : Int32) : vm_RI G 0 mX2_hasSomebodyAt [.ref b, .int x] (vm_P σ b (kd, gl, sp, wy, er, top, law, n, gn, fin)) (fun r σ' => r = bI (decide (sF (fun p => decide (sp p = x)) n < n)) ∧ σ' = vm_P σ b (kd, gl, sp, wy, er, top, law, n, gn, fin)) := by
  refine vm_int (y := mX2_hasSomebodyAt) (by decide) (Nat.le_of_ble_eq_true rfl) (ls0 := [some (.ref b), some (.int x), none]) rfl rfl (fun C F K => ?_)
  have F : vm_F G C cX2_hasSomebodyAt RX2 3 _ := F
  show vm_Ex G C 3 0 [some (.ref b), some (.int x), none] [] _
  have L : ∀ k i, (∀ p, p < i → ¬ sp p = x) → i + k = n → vm_Ex G C 3 2 [some (.ref b), some (.int x), some (.int (nI i))] [] (vm_P σ b (kd, gl, sp, wy, er, top, law, n, gn, fin)) := by
    intro k
    induction k with
    | zero =>
      intro i hh hi
      refine q_iload_n F 2 dX2_hasSomebodyAt_2 rfl rfl ?_
      refine q_aload_n F 0 dX2_hasSomebodyAt_3 rfl rfl ?_
      refine gpX2_34 F dX2_hasSomebodyAt_4 hb ?_
      refine n_ge F 28 dX2_hasSomebodyAt_7 (by decide) (by omega) (by omega) (fun c_7 => ?_) (fun c_7 => ?_)
      · refine q_iconst F (nI 0) dX2_hasSomebodyAt_28 (by decide) ?_
        refine K _ _ _ _ ?_ dX2_hasSomebodyAt_29 (by decide)
        refine ⟨?_, rfl⟩
        rw [sF_none (fun p hp => by simpa using hh p (by omega)), decide_eq_false (by omega)]
        rfl
      · omega
    | succ k ih =>
      intro i hh hi
      refine q_iload_n F 2 dX2_hasSomebodyAt_2 rfl rfl ?_
      refine q_aload_n F 0 dX2_hasSomebodyAt_3 rfl rfl ?_
      refine gpX2_34 F dX2_hasSomebodyAt_4 hb ?_
      refine n_ge F 28 dX2_hasSomebodyAt_7 (by decide) (by omega) (by omega) (fun c_7 => ?_) (fun c_7 => ?_)
      · omega
      · refine q_aload_n F 0 dX2_hasSomebodyAt_10 rfl rfl ?_
        refine gpX2_18 F dX2_hasSomebodyAt_11 hb ?_
        refine q_iload_n F 2 dX2_hasSomebodyAt_14 rfl rfl ?_
        refine ld_sp F dX2_hasSomebodyAt_15 hb (by omega) ?_
        refine q_iload_n F 1 dX2_hasSomebodyAt_16 rfl rfl ?_
        refine q_icmp_ne F 22 dX2_hasSomebodyAt_17 (by decide) (fun c_17 => ?_) (fun c_17 => ?_)
        · refine q_iinc2 F _ dX2_hasSomebodyAt_22 (nI_inc _) (by decide) rfl ?_
          refine q_goto F 2 dX2_hasSomebodyAt_25 (by decide) ?_
          exact ih (i + 1) (fun p hp => by
            rcases Nat.lt_or_ge p i with q | q
            · exact hh p q
            · rw [show p = i by omega]; exact c_17) (by omega)
        · refine q_iconst F (nI 1) dX2_hasSomebodyAt_20 (by decide) ?_
          refine K _ _ _ _ ?_ dX2_hasSomebodyAt_21 (by decide)
          refine ⟨?_, rfl⟩
          rw [sF_at (i := i) (fun p hp => by simpa using hh p hp) (by simpa using c_17) c_7, decide_eq_true c_7]
          rfl
  refine q_iconst F (nI 0) dX2_hasSomebodyAt_0 (by decide) ?_
  refine q_istore_n2 F dX2_hasSomebodyAt_1 (by decide) rfl ?_
  exact L n 0 (fun p hp => absurd hp (Nat.not_lt_zero _)) (by omega)
set_option maxHeartbeats 4000000 in
set_option maxRecDepth 100000 in
theorem c_isCarriedAs0 {G : vm_G} {σ : vm_M} {b : Nat} (hb : vm_pathAt b) {kd : Nat → Nat} {gl sp : Nat → Int32} {wy : Nat → Bool} {er : Nat → Nat} {top law n gn : Nat} {fin : Int32} (hn : n ≤ 6) {r : Nat} (hr : vm_sh r = (4, 4, [some (r + 1)]) ∧ vm_sh (r + 1) = (9, 40, [])) (hx : r + 1 < b ∨ b + 5 < r + 1) : vm_RI G 0 mX2_isCarriedAs [.ref b, .ref r] (vm_P σ b (kd, gl, sp, wy, er, top, law, n, gn, fin)) (fun a σ' => a = bI (decide (sF (fun p => !(decide (nI (er p) = σ (r + 1) p))) n = n)) ∧ σ' = vm_P σ b (kd, gl, sp, wy, er, top, law, n, gn, fin)) := by
  refine vm_int (y := mX2_isCarriedAs) (by decide) (Nat.le_of_ble_eq_true rfl) (ls0 := [some (.ref b), some (.ref r), none]) rfl rfl (fun C F K => ?_)
  have F : vm_F G C cX2_isCarriedAs RX2 3 _ := F
  show vm_Ex G C 3 0 [some (.ref b), some (.ref r), none] [] _
  have L : ∀ k i, (∀ p, p < i → nI (er p) = σ (r + 1) p) → i + k = n → vm_Ex G C 3 2 [some (.ref b), some (.ref r), some (.int (nI i))] [] (vm_P σ b (kd, gl, sp, wy, er, top, law, n, gn, fin)) := by
    intro k
    induction k with
    | zero =>
      intro i hh hi
      refine q_iload_n F 2 dX2_isCarriedAs_2 rfl rfl ?_
      refine q_aload_n F 0 dX2_isCarriedAs_3 rfl rfl ?_
      refine gpX2_34 F dX2_isCarriedAs_4 hb ?_
      refine n_ge F 33 dX2_isCarriedAs_7 (by decide) (by omega) (by omega) (fun c_7 => ?_) (fun c_7 => ?_)
      · refine q_iconst F (nI 1) dX2_isCarriedAs_33 (by decide) ?_
        refine K _ _ _ _ ?_ dX2_isCarriedAs_34 (by decide)
        refine ⟨?_, rfl⟩
        rw [sF_none (fun p hp => by simpa using hh p (by omega)), decide_eq_true rfl]
        rfl
      · omega
    | succ k ih =>
      intro i hh hi
      refine q_iload_n F 2 dX2_isCarriedAs_2 rfl rfl ?_
      refine q_aload_n F 0 dX2_isCarriedAs_3 rfl rfl ?_
      refine gpX2_34 F dX2_isCarriedAs_4 hb ?_
      refine n_ge F 33 dX2_isCarriedAs_7 (by decide) (by omega) (by omega) (fun c_7 => ?_) (fun c_7 => ?_)
      · omega
      · refine q_aload_n F 0 dX2_isCarriedAs_10 rfl rfl ?_
        refine gpX2_24 F dX2_isCarriedAs_11 hb ?_
        refine q_iload_n F 2 dX2_isCarriedAs_14 rfl rfl ?_
        refine ld_er F dX2_isCarriedAs_15 hb (by omega) ?_
        refine q_aload_n F 1 dX2_isCarriedAs_16 rfl rfl ?_
        refine gX2_44 F dX2_isCarriedAs_17 hr.1 rfl ?_
        refine q_iload_n F 2 dX2_isCarriedAs_20 rfl rfl ?_
        refine q_iald F dX2_isCarriedAs_21 hr.2 (by omega) (by decide) ?_
        refine q_top (.int (σ (r + 1) i)) (congrArg Value.int (by rw [vm_P_out hx])) ?_
        refine q_icmp_eq F 27 dX2_isCarriedAs_22 (by decide) (fun c_22 => ?_) (fun c_22 => ?_)
        · refine q_iinc2 F _ dX2_isCarriedAs_27 (nI_inc _) (by decide) rfl ?_
          refine q_goto F 2 dX2_isCarriedAs_30 (by decide) ?_
          exact ih (i + 1) (fun p hp => by
            rcases Nat.lt_or_ge p i with q | q
            · exact hh p q
            · rw [show p = i by omega]; exact c_22) (by omega)
        · refine q_iconst F (nI 0) dX2_isCarriedAs_25 (by decide) ?_
          refine K _ _ _ _ ?_ dX2_isCarriedAs_26 (by decide)
          refine ⟨?_, rfl⟩
          rw [sF_at (i := i) (fun p hp => by simpa using hh p hp) (by simpa using c_22) c_7, decide_eq_false (by omega)]
          rfl
  refine q_iconst F (nI 0) dX2_isCarriedAs_0 (by decide) ?_
  refine q_istore_n2 F dX2_isCarriedAs_1 (by decide) rfl ?_
  exact L n 0 (fun p hp => absurd hp (Nat.not_lt_zero _)) (by omega)
theorem c_isCarriedAs {G : vm_G} {σ : vm_M} {b : Nat} (hb : vm_pathAt b) {v : vm_V} (h : sOk v) {r : Nat} (hr : vm_sh r = (4, 4, [some (r + 1)]) ∧ vm_sh (r + 1) = (9, 40, [])) (hx : r + 1 < b ∨ b + 5 < r + 1) : vm_RI G 0 mX2_isCarriedAs [.ref b, .ref r] (vm_P σ b v) (fun a σ' => a = bI (decide (sF (fun p => !(decide (nI (V_er v p) = σ (r + 1) p))) (V_n v) = V_n v)) ∧ σ' = vm_P σ b v) := by
  obtain ⟨kd, gl, sp, wy, er, top, law, n, gn, fin⟩ := v
  exact c_isCarriedAs0 hb h.1 hr hx
set_option maxHeartbeats 4000000 in
set_option maxRecDepth 100000 in
theorem c_sets0 {G : vm_G} {σ : vm_M} {b : Nat} (hb : vm_pathAt b) {kd : Nat → Nat} {gl sp : Nat → Int32} {wy : Nat → Bool} {er : Nat → Nat} {top law n gn : Nat} {fin : Int32} (hn : n ≤ 6) : vm_RI G 0 mX2_sets [.ref b] (vm_P σ b (kd, gl, sp, wy, er, top, law, n, gn, fin)) (fun r σ' => r = nI (2 ^ n) ∧ σ' = vm_P σ b (kd, gl, sp, wy, er, top, law, n, gn, fin)) := by
  refine vm_int (y := mX2_sets) (by decide) (Nat.le_of_ble_eq_true rfl) (ls0 := [some (.ref b)]) rfl rfl (fun C F K => ?_)
  have F : vm_F G C cX2_sets RX2 1 _ := F
  show vm_Ex G C 1 0 [some (.ref b)] [] _
  refine q_iconst F (nI 1) dX2_sets_0 (by decide) ?_
  refine q_aload_n F 0 dX2_sets_1 rfl rfl ?_
  refine gpX2_34 F dX2_sets_2 hb ?_
  refine q_ishl F dX2_sets_5 ?_
  exact K _ _ _ _ (⟨pow_at n (by omega), rfl⟩) dX2_sets_6 rfl
theorem c_sets {G : vm_G} {σ : vm_M} {b : Nat} (hb : vm_pathAt b) {v : vm_V} (h : sOk v) : vm_RI G 0 mX2_sets [.ref b] (vm_P σ b v) (fun r σ' => r = nI (2 ^ V_n v) ∧ σ' = vm_P σ b v) := by
  obtain ⟨kd, gl, sp, wy, er, top, law, n, gn, fin⟩ := v
  exact c_sets0 hb h.1
set_option maxHeartbeats 4000000 in
set_option maxRecDepth 100000 in
theorem c_canSetOut0 {G : vm_G} {σ : vm_M} {b : Nat} (hb : vm_pathAt b) {kd : Nat → Nat} {gl sp : Nat → Int32} {wy : Nat → Bool} {er : Nat → Nat} {top law n gn : Nat} {fin : Int32} (hn : n ≤ 6) (hk : ∀ p, kd p < 6) {s : Nat} (hs : s < 64) : vm_RI G 0 mX2_canSetOut [.ref b, .int (nI s)] (vm_P σ b (kd, gl, sp, wy, er, top, law, n, gn, fin)) (fun a σ' => a = bI (sCan kd n s) ∧ σ' = vm_P σ b (kd, gl, sp, wy, er, top, law, n, gn, fin)) := by
  refine vm_int (y := mX2_canSetOut) (by decide) (Nat.le_of_ble_eq_true rfl) (ls0 := [some (.ref b), some (.int (nI s)), none]) rfl rfl (fun C F K => ?_)
  have F : vm_F G C cX2_canSetOut RX2 3 _ := F
  show vm_Ex G C 3 0 [some (.ref b), some (.int (nI s)), none] [] _
  have L : ∀ k i, (∀ p, p < i → (kd p == 5 && s.testBit p) = false) → i + k = n → vm_Ex G C 3 2 [some (.ref b), some (.int (nI s)), some (.int (nI i))] [] (vm_P σ b (kd, gl, sp, wy, er, top, law, n, gn, fin)) := by
    intro k
    induction k with
    | zero =>
      intro i hh hi
      refine q_iload_n F 2 dX2_canSetOut_2 rfl rfl ?_
      refine q_aload_n F 0 dX2_canSetOut_3 rfl rfl ?_
      refine gpX2_34 F dX2_canSetOut_4 hb ?_
      refine n_ge F 37 dX2_canSetOut_7 (by decide) (by omega) (by omega) (fun c_7 => ?_) (fun c_7 => ?_)
      · refine q_iconst F (nI 1) dX2_canSetOut_37 (by decide) ?_
        refine K _ _ _ _ ?_ dX2_canSetOut_38 (by decide)
        refine ⟨?_, rfl⟩
        unfold sCan
        rw [sF_none (fun p hp => hh p (by omega)), decide_eq_false (by omega)]
        rfl
      · omega
    | succ k ih =>
      intro i hh hi
      refine q_iload_n F 2 dX2_canSetOut_2 rfl rfl ?_
      refine q_aload_n F 0 dX2_canSetOut_3 rfl rfl ?_
      refine gpX2_34 F dX2_canSetOut_4 hb ?_
      refine n_ge F 37 dX2_canSetOut_7 (by decide) (by omega) (by omega) (fun c_7 => ?_) (fun c_7 => ?_)
      · omega
      · refine q_aload_n F 0 dX2_canSetOut_10 rfl rfl ?_
        refine gpX2_9 F dX2_canSetOut_11 hb ?_
        refine q_iload_n F 2 dX2_canSetOut_14 rfl rfl ?_
        refine ld_kd F dX2_canSetOut_15 hb (by omega) ?_
        refine q_iconst F (nI 5) dX2_canSetOut_16 (by decide) ?_
        refine n_ne F 31 dX2_canSetOut_17 (by decide) (Nat.lt_of_lt_of_le (hk _) (by decide)) (by omega) (fun c_17 => ?_) (fun c_17 => ?_)
        · refine q_iinc2 F _ dX2_canSetOut_31 (nI_inc _) (by decide) rfl ?_
          refine q_goto F 2 dX2_canSetOut_34 (by decide) ?_
          exact ih (i + 1) (fun p hp => by
            rcases Nat.lt_or_ge p i with q | q
            · exact hh p q
            · rw [show p = i by omega]; simp [c_7, c_17]) (by omega)
        · refine q_iload_n F 1 dX2_canSetOut_20 rfl rfl ?_
          refine q_iload_n F 2 dX2_canSetOut_21 rfl rfl ?_
          refine q_ishr F dX2_canSetOut_22 ?_
          refine q_iconst F (nI 1) dX2_canSetOut_23 (by decide) ?_
          refine q_iand F dX2_canSetOut_24 ?_
          refine q_top (.int (bI (s.testBit i))) (congrArg Value.int (bit_at s hs i (by omega))) ?_
          refine q_iconst F (nI 1) dX2_canSetOut_25 (by decide) ?_
          refine b1_ne F 31 dX2_canSetOut_26 (by decide) (fun c_26 => ?_) (fun c_26 => ?_)
          · refine q_iinc2 F _ dX2_canSetOut_31 (nI_inc _) (by decide) rfl ?_
            refine q_goto F 2 dX2_canSetOut_34 (by decide) ?_
            exact ih (i + 1) (fun p hp => by
              rcases Nat.lt_or_ge p i with q | q
              · exact hh p q
              · rw [show p = i by omega]; simp [c_7, c_17, c_26]) (by omega)
          · refine q_iconst F (nI 0) dX2_canSetOut_29 (by decide) ?_
            refine K _ _ _ _ ?_ dX2_canSetOut_30 (by decide)
            refine ⟨?_, rfl⟩
            unfold sCan
            rw [sF_at (i := i) (fun p hp => hh p hp) (by simp [c_7, c_17, c_26]) c_7, decide_eq_true c_7]
            rfl
  refine q_iconst F (nI 0) dX2_canSetOut_0 (by decide) ?_
  refine q_istore_n2 F dX2_canSetOut_1 (by decide) rfl ?_
  exact L n 0 (fun p hp => absurd hp (Nat.not_lt_zero _)) (by omega)
theorem c_canSetOut {G : vm_G} {σ : vm_M} {b : Nat} (hb : vm_pathAt b) {v : vm_V} (h : sOk v) {s : Nat} (hs : s < 64) : vm_RI G 0 mX2_canSetOut [.ref b, .int (nI s)] (vm_P σ b v) (fun a σ' => a = bI (sCan (V_kd v) (V_n v) s) ∧ σ' = vm_P σ b v) := by
  obtain ⟨kd, gl, sp, wy, er, top, law, n, gn, fin⟩ := v
  exact c_canSetOut0 hb h.1 h.2.2.1 hs
set_option maxHeartbeats 4000000 in
set_option maxRecDepth 100000 in
theorem c_setOut0 {G : vm_G} {σ : vm_M} {b : Nat} (hb : vm_pathAt b) {kd : Nat → Nat} {gl sp : Nat → Int32} {wy : Nat → Bool} {er : Nat → Nat} {top law n gn : Nat} {fin : Int32} (hn : n ≤ 6) (hk : ∀ p, kd p < 6) {s : Nat} (hs : s < 64) : vm_RV G 0 mX2_setOut [.ref b, .int (nI s)] (vm_P σ b (kd, gl, sp, wy, er, top, law, n, gn, fin)) (fun σ' => σ' = vm_P σ b (kd, gl, sp, sSet kd s n wy, er, top, law, n, gn, fin)) := by
  refine vm_void (y := mX2_setOut) (by decide) (Nat.le_of_ble_eq_true rfl) (ls0 := [some (.ref b), some (.int (nI s)), none]) rfl rfl (fun C F K => ?_)
  have F : vm_F G C cX2_setOut RX2 3 _ := F
  show vm_Ex G C 3 0 [some (.ref b), some (.int (nI s)), none] [] _
  have L : ∀ k i, i + k = n → vm_Ex G C 3 2 [some (.ref b), some (.int (nI s)), some (.int (nI i))] [] (vm_P σ b (kd, gl, sp, sSet kd s i wy, er, top, law, n, gn, fin)) := by
    intro k
    induction k with
    | zero =>
      intro i hi
      refine q_iload_n F 2 dX2_setOut_2 rfl rfl ?_
      refine q_aload_n F 0 dX2_setOut_3 rfl rfl ?_
      refine gpX2_34 F dX2_setOut_4 hb ?_
      refine n_ge F 46 dX2_setOut_7 (by decide) (by omega) (by omega) (fun c_7 => ?_) (fun c_7 => ?_)
      · refine K _ _ _ ?_ dX2_setOut_46
        rw [show i = n by omega]
      · omega
    | succ k ih =>
      intro i hi
      refine q_iload_n F 2 dX2_setOut_2 rfl rfl ?_
      refine q_aload_n F 0 dX2_setOut_3 rfl rfl ?_
      refine gpX2_34 F dX2_setOut_4 hb ?_
      refine n_ge F 46 dX2_setOut_7 (by decide) (by omega) (by omega) (fun c_7 => ?_) (fun c_7 => ?_)
      · omega
      · refine q_aload_n F 0 dX2_setOut_10 rfl rfl ?_
        refine gpX2_9 F dX2_setOut_11 hb ?_
        refine q_iload_n F 2 dX2_setOut_14 rfl rfl ?_
        refine ld_kd F dX2_setOut_15 hb (by omega) ?_
        refine q_iconst F (nI 5) dX2_setOut_16 (by decide) ?_
        refine n_eq F 40 dX2_setOut_17 (by decide) (Nat.lt_of_lt_of_le (hk _) (by decide)) (by omega) (fun c_17 => ?_) (fun c_17 => ?_)
        · refine q_iinc2 F _ dX2_setOut_40 (nI_inc _) (by decide) rfl ?_
          refine q_goto F 2 dX2_setOut_43 (by decide) ?_
          have hh := ih (i + 1) (by omega)
          simp only [sSet, c_7, c_17, if_true, if_false] at hh
          exact hh
        · refine q_aload_n F 0 dX2_setOut_20 rfl rfl ?_
          refine gpX2_21 F dX2_setOut_21 hb ?_
          refine q_iload_n F 2 dX2_setOut_24 rfl rfl ?_
          refine q_iload_n F 1 dX2_setOut_25 rfl rfl ?_
          refine q_iload_n F 2 dX2_setOut_26 rfl rfl ?_
          refine q_ishr F dX2_setOut_27 ?_
          refine q_iconst F (nI 1) dX2_setOut_28 (by decide) ?_
          refine q_iand F dX2_setOut_29 ?_
          refine q_top (.int (bI (s.testBit i))) (congrArg Value.int (bit_at s hs i (by omega))) ?_
          refine q_iconst F (nI 1) dX2_setOut_30 (by decide) ?_
          refine b1_ne F 38 dX2_setOut_31 (by decide) (fun c_31 => ?_) (fun c_31 => ?_)
          · refine q_iconst F (nI 0) dX2_setOut_38 (by decide) ?_
            refine q_top (.int (bI false)) (congrArg Value.int (by decide)) ?_
            refine sto_wy F dX2_setOut_39 hb (by omega) ?_
            refine q_iinc2 F _ dX2_setOut_40 (nI_inc _) (by decide) rfl ?_
            refine q_goto F 2 dX2_setOut_43 (by decide) ?_
            have hh := ih (i + 1) (by omega)
            simp only [sSet, c_7, c_17, c_31, if_true, if_false] at hh
            exact hh
          · refine q_iconst F (nI 1) dX2_setOut_34 (by decide) ?_
            refine q_goto F 39 dX2_setOut_35 (by decide) ?_
            refine q_top (.int (bI true)) (congrArg Value.int (by decide)) ?_
            refine sto_wy F dX2_setOut_39 hb (by omega) ?_
            refine q_iinc2 F _ dX2_setOut_40 (nI_inc _) (by decide) rfl ?_
            refine q_goto F 2 dX2_setOut_43 (by decide) ?_
            have hh := ih (i + 1) (by omega)
            simp only [sSet, c_7, c_17, c_31, if_true, if_false] at hh
            exact hh
  refine q_iconst F (nI 0) dX2_setOut_0 (by decide) ?_
  refine q_istore_n2 F dX2_setOut_1 (by decide) rfl ?_
  exact L n 0 (by omega)
/-- set out by a set -/
def sOut (s : Nat) (v : vm_V) : vm_V := (V_kd v, V_gl v, V_sp v, sSet (V_kd v) s (V_n v) (V_wy v), V_er v, V_top v, V_law v, V_n v, V_gn v, V_fin v)
theorem sOk_Out {v : vm_V} (h : sOk v) (s : Nat) : sOk (sOut s v) := h
theorem c_setOut {G : vm_G} {σ : vm_M} {b : Nat} (hb : vm_pathAt b) {v : vm_V} (h : sOk v) {s : Nat} (hs : s < 64) : vm_RV G 0 mX2_setOut [.ref b, .int (nI s)] (vm_P σ b v) (fun σ' => σ' = vm_P σ b (sOut s v)) := by
  obtain ⟨kd, gl, sp, wy, er, top, law, n, gn, fin⟩ := v
  exact c_setOut0 hb h.1 h.2.2.1 hs
/-- the arrays of b2 whole -/
def vm_mix (σ : vm_M) (b b2 : Nat) : vm_M := fun o => if b < o ∧ o ≤ b + 5 then σ (b2 + (o - b)) else σ o
theorem vm_mix_c {σ : vm_M} {b b2 : Nat} (hb : vm_pathAt b) (hb2 : vm_pathAt b2) (hd : b2 + 5 < b ∨ b + 5 < b2) : ∀ k j, k < vm_N → j < (vm_sh k).2.1 → vm_cpy σ b b2 6 k j = vm_mix σ b b2 k j := by
  intro k j hk hj
  unfold vm_cpy vm_mix
  by_cases h : b < k ∧ k ≤ b + 5
  · have h6 : j < 6 := by
      obtain ⟨-, h1, h2, h3, h4, h5⟩ := hb
      rcases (show k = b + 1 ∨ k = b + 2 ∨ k = b + 3 ∨ k = b + 4 ∨ k = b + 5 by omega) with rfl | rfl | rfl | rfl | rfl
      · rw [h1] at hj; exact hj
      · rw [h2] at hj; exact hj
      · rw [h3] at hj; exact hj
      · rw [h4] at hj; exact hj
      · rw [h5] at hj; exact hj
    rw [if_pos ⟨h.1, h.2, h6⟩, if_pos h]
  · rw [if_neg (fun q => h ⟨q.1, q.2.1⟩), if_neg h]
theorem vm_mix_P {σ : vm_M} {b b2 : Nat} (hd : b2 + 5 < b ∨ b + 5 < b2) {v : vm_V} (hv : vm_P σ b2 v = σ) : vm_upd (vm_upd (vm_upd (vm_upd (vm_upd (vm_mix σ b b2) b 5 (σ b2 5)) b 6 (σ b2 6)) b 7 (σ b2 7)) b 8 (σ b2 8)) b 9 (σ b2 9) = vm_P σ b v := by
  obtain ⟨kd, gl, sp, wy, er, top, law, n, gn, fin⟩ := v
  have e : ∀ o k, σ o k = vm_P σ b2 (kd, gl, sp, wy, er, top, law, n, gn, fin) o k := fun o k => by rw [hv]
  have a5 : σ b2 5 = nI top := by rw [e]; exact vP_top
  have a6 : σ b2 6 = nI law := by rw [e]; exact vP_law
  have a7 : σ b2 7 = nI n := by rw [e]; exact vP_n
  have a8 : σ b2 8 = nI gn := by rw [e]; exact vP_gn
  have a9 : σ b2 9 = fin := by rw [e]; exact vP_fin
  have b1 : ∀ k, σ (b2 + 1) k = nI (kd k) := fun k => by rw [e]; exact vP_kd k
  have b2' : ∀ k, σ (b2 + 2) k = gl k := fun k => by rw [e]; exact vP_gl k
  have b3 : ∀ k, σ (b2 + 3) k = sp k := fun k => by rw [e]; exact vP_sp k
  have b4 : ∀ k, σ (b2 + 4) k = bI (wy k) := fun k => by rw [e]; exact vP_wy k
  have b5 : ∀ k, σ (b2 + 5) k = nI (er k) := fun k => by rw [e]; exact vP_er k
  funext o k
  by_cases h : o = b
  · subst h
    by_cases k5 : k = 5
    · subst k5; simp [vm_upd, upd, vm_P, a5]
    · by_cases k6 : k = 6
      · subst k6; simp [vm_upd, upd, vm_P, a6]
      · by_cases k7 : k = 7
        · subst k7; simp [vm_upd, upd, vm_P, a7]
        · by_cases k8 : k = 8
          · subst k8; simp [vm_upd, upd, vm_P, a8]
          · by_cases k9 : k = 9
            · subst k9; simp [vm_upd, upd, vm_P, a9]
            · simp [vm_upd, upd, vm_P, vm_mix, k5, k6, k7, k8, k9]
  · by_cases h2 : b < o ∧ o ≤ b + 5
    · obtain ⟨c, rfl⟩ : ∃ c, o = b + c := ⟨o - b, by omega⟩
      rcases (show c = 1 ∨ c = 2 ∨ c = 3 ∨ c = 4 ∨ c = 5 by omega) with rfl | rfl | rfl | rfl | rfl <;> simp [vm_upd, vm_P, vm_mix, b1, b2', b3, b4, b5]
    · rw [vm_P_out (by omega)]
      simp [vm_upd, vm_mix, h, h2]
set_option maxHeartbeats 4000000 in
set_option maxRecDepth 100000 in
theorem c_become {G : vm_G} {σ : vm_M} {b b2 : Nat} (hb : vm_pathAt b) (hb2 : vm_pathAt b2) (hd : b2 + 5 < b ∨ b + 5 < b2) {v : vm_V} (hv : vm_P σ b2 v = σ) : vm_RV G 0 mX2_become [.ref b, .ref b2] σ (fun σ' => σ' = vm_P σ b v) := by
  refine vm_void (y := mX2_become) (by decide) (Nat.le_of_ble_eq_true rfl) (ls0 := [some (.ref b), some (.ref b2), none]) rfl rfl (fun C F K => ?_)
  have F : vm_F G C cX2_become RX2 3 _ := F
  show vm_Ex G C 3 0 [some (.ref b), some (.ref b2), none] [] _
  have L : ∀ k i, i + k = 6 → vm_Ex G C 3 2 [some (.ref b), some (.ref b2), some (.int (nI i))] [] (vm_cpy σ b b2 i) := by
    intro k
    induction k with
    | zero =>
      intro i hi
      refine q_iload_n F 2 dX2_become_2 rfl rfl ?_
      refine q_bipush F (nI 6) dX2_become_3 (by decide) ?_
      refine n_ge F 74 dX2_become_5 (by decide) (by omega) (by omega) (fun c_5 => ?_) (fun c_5 => ?_)
      · have hi6 : i = 6 := by omega
        subst hi6
        have hs1 : vm_mix σ b b2 b2 = σ b2 := by
          unfold vm_mix
          rw [if_neg (by omega)]
        refine vm_conv2 (σ' := vm_mix σ b b2) (vm_mix_c hb hb2 hd) ?_
        refine q_aload_n F 0 dX2_become_74 rfl rfl ?_
        refine q_aload_n F 1 dX2_become_75 rfl rfl ?_
        refine gX2_27 F dX2_become_76 hb2.1 rfl ?_
        refine q_top (.int (σ b2 5)) (congrArg Value.int (by simp only [vm_upd_n _ _ _ (show b2 ≠ b by omega), hs1])) ?_
        refine pX2_27 F dX2_become_79 hb.1 rfl ⟨rfl, rfl⟩ ?_
        refine q_aload_n F 0 dX2_become_82 rfl rfl ?_
        refine q_aload_n F 1 dX2_become_83 rfl rfl ?_
        refine gX2_31 F dX2_become_84 hb2.1 rfl ?_
        refine q_top (.int (σ b2 6)) (congrArg Value.int (by simp only [vm_upd_n _ _ _ (show b2 ≠ b by omega), hs1])) ?_
        refine pX2_31 F dX2_become_87 hb.1 rfl ⟨rfl, rfl⟩ ?_
        refine q_aload_n F 0 dX2_become_90 rfl rfl ?_
        refine q_aload_n F 1 dX2_become_91 rfl rfl ?_
        refine gX2_34 F dX2_become_92 hb2.1 rfl ?_
        refine q_top (.int (σ b2 7)) (congrArg Value.int (by simp only [vm_upd_n _ _ _ (show b2 ≠ b by omega), hs1])) ?_
        refine pX2_34 F dX2_become_95 hb.1 rfl ⟨rfl, rfl⟩ ?_
        refine q_aload_n F 0 dX2_become_98 rfl rfl ?_
        refine q_aload_n F 1 dX2_become_99 rfl rfl ?_
        refine gX2_37 F dX2_become_100 hb2.1 rfl ?_
        refine q_top (.int (σ b2 8)) (congrArg Value.int (by simp only [vm_upd_n _ _ _ (show b2 ≠ b by omega), hs1])) ?_
        refine pX2_37 F dX2_become_103 hb.1 rfl ⟨rfl, rfl⟩ ?_
        refine q_aload_n F 0 dX2_become_106 rfl rfl ?_
        refine q_aload_n F 1 dX2_become_107 rfl rfl ?_
        refine gX2_40 F dX2_become_108 hb2.1 rfl ?_
        refine q_top (.int (σ b2 9)) (congrArg Value.int (by simp only [vm_upd_n _ _ _ (show b2 ≠ b by omega), hs1])) ?_
        refine pX2_40 F dX2_become_111 hb.1 rfl ⟨rfl, rfl⟩ ?_
        refine K _ _ _ ?_ dX2_become_114
        exact vm_mix_P hd hv
      · omega
    | succ k ih =>
      intro i hi
      refine q_iload_n F 2 dX2_become_2 rfl rfl ?_
      refine q_bipush F (nI 6) dX2_become_3 (by decide) ?_
      refine n_ge F 74 dX2_become_5 (by decide) (by omega) (by omega) (fun c_5 => ?_) (fun c_5 => ?_)
      · omega
      · refine q_aload_n F 0 dX2_become_8 rfl rfl ?_
        refine gX2_9 F dX2_become_9 hb.1 rfl ?_
        refine q_iload_n F 2 dX2_become_12 rfl rfl ?_
        refine q_aload_n F 1 dX2_become_13 rfl rfl ?_
        refine gX2_9 F dX2_become_14 hb2.1 rfl ?_
        refine q_iload_n F 2 dX2_become_17 rfl rfl ?_
        refine q_iald F dX2_become_18 hb2.2.1 (by omega) (by decide) ?_
        refine q_top (.int (σ (b2 + 1) i)) (congrArg Value.int (by simp only [vm_upd_n _ _ _ (show b2 + 1 ≠ b + 1 by omega), vm_upd_n _ _ _ (show b2 + 1 ≠ b + 2 by omega), vm_upd_n _ _ _ (show b2 + 1 ≠ b + 3 by omega), vm_upd_n _ _ _ (show b2 + 1 ≠ b + 4 by omega), vm_cpy_src (c := 1) hd (by decide)])) ?_
        refine q_iast F dX2_become_19 hb.2.1 (by omega) (by decide) ?_
        refine q_aload_n F 0 dX2_become_20 rfl rfl ?_
        refine gX2_15 F dX2_become_21 hb.1 rfl ?_
        refine q_iload_n F 2 dX2_become_24 rfl rfl ?_
        refine q_aload_n F 1 dX2_become_25 rfl rfl ?_
        refine gX2_15 F dX2_become_26 hb2.1 rfl ?_
        refine q_iload_n F 2 dX2_become_29 rfl rfl ?_
        refine q_iald F dX2_become_30 hb2.2.2.1 (by omega) (by decide) ?_
        refine q_top (.int (σ (b2 + 2) i)) (congrArg Value.int (by simp only [vm_upd_n _ _ _ (show b2 + 2 ≠ b + 1 by omega), vm_upd_n _ _ _ (show b2 + 2 ≠ b + 2 by omega), vm_upd_n _ _ _ (show b2 + 2 ≠ b + 3 by omega), vm_upd_n _ _ _ (show b2 + 2 ≠ b + 4 by omega), vm_cpy_src (c := 2) hd (by decide)])) ?_
        refine q_iast F dX2_become_31 hb.2.2.1 (by omega) (by decide) ?_
        refine q_aload_n F 0 dX2_become_32 rfl rfl ?_
        refine gX2_18 F dX2_become_33 hb.1 rfl ?_
        refine q_iload_n F 2 dX2_become_36 rfl rfl ?_
        refine q_aload_n F 1 dX2_become_37 rfl rfl ?_
        refine gX2_18 F dX2_become_38 hb2.1 rfl ?_
        refine q_iload_n F 2 dX2_become_41 rfl rfl ?_
        refine q_iald F dX2_become_42 hb2.2.2.2.1 (by omega) (by decide) ?_
        refine q_top (.int (σ (b2 + 3) i)) (congrArg Value.int (by simp only [vm_upd_n _ _ _ (show b2 + 3 ≠ b + 1 by omega), vm_upd_n _ _ _ (show b2 + 3 ≠ b + 2 by omega), vm_upd_n _ _ _ (show b2 + 3 ≠ b + 3 by omega), vm_upd_n _ _ _ (show b2 + 3 ≠ b + 4 by omega), vm_cpy_src (c := 3) hd (by decide)])) ?_
        refine q_iast F dX2_become_43 hb.2.2.2.1 (by omega) (by decide) ?_
        refine q_aload_n F 0 dX2_become_44 rfl rfl ?_
        refine gX2_21 F dX2_become_45 hb.1 rfl ?_
        refine q_iload_n F 2 dX2_become_48 rfl rfl ?_
        refine q_aload_n F 1 dX2_become_49 rfl rfl ?_
        refine gX2_21 F dX2_become_50 hb2.1 rfl ?_
        refine q_iload_n F 2 dX2_become_53 rfl rfl ?_
        refine q_iald F dX2_become_54 hb2.2.2.2.2.1 (by omega) (by decide) ?_
        refine q_top (.int (σ (b2 + 4) i)) (congrArg Value.int (by simp only [vm_upd_n _ _ _ (show b2 + 4 ≠ b + 1 by omega), vm_upd_n _ _ _ (show b2 + 4 ≠ b + 2 by omega), vm_upd_n _ _ _ (show b2 + 4 ≠ b + 3 by omega), vm_upd_n _ _ _ (show b2 + 4 ≠ b + 4 by omega), vm_cpy_src (c := 4) hd (by decide)])) ?_
        refine q_iast F dX2_become_55 hb.2.2.2.2.1 (by omega) (by decide) ?_
        refine q_aload_n F 0 dX2_become_56 rfl rfl ?_
        refine gX2_24 F dX2_become_57 hb.1 rfl ?_
        refine q_iload_n F 2 dX2_become_60 rfl rfl ?_
        refine q_aload_n F 1 dX2_become_61 rfl rfl ?_
        refine gX2_24 F dX2_become_62 hb2.1 rfl ?_
        refine q_iload_n F 2 dX2_become_65 rfl rfl ?_
        refine q_iald F dX2_become_66 hb2.2.2.2.2.2 (by omega) (by decide) ?_
        refine q_top (.int (σ (b2 + 5) i)) (congrArg Value.int (by simp only [vm_upd_n _ _ _ (show b2 + 5 ≠ b + 1 by omega), vm_upd_n _ _ _ (show b2 + 5 ≠ b + 2 by omega), vm_upd_n _ _ _ (show b2 + 5 ≠ b + 3 by omega), vm_upd_n _ _ _ (show b2 + 5 ≠ b + 4 by omega), vm_cpy_src (c := 5) hd (by decide)])) ?_
        refine q_iast F dX2_become_67 hb.2.2.2.2.2 (by omega) (by decide) ?_
        refine q_iinc2 F _ dX2_become_68 (nI_inc _) (by decide) rfl ?_
        refine q_goto F 2 dX2_become_71 (by decide) ?_
        rw [vm_cpy_s hd]
        exact ih (i + 1) (by omega)
  refine q_iconst F (nI 0) dX2_become_0 (by decide) ?_
  refine q_istore_n2 F dX2_become_1 (by decide) rfl ?_
  have hh := L 6 0 (by omega)
  rw [vm_cpy_0] at hh
  exact hh
