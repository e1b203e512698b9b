set_option maxHeartbeats 4000000 in
set_option maxRecDepth 100000 in
theorem c_goHalf {G : vm_G} {σ : vm_M} {b : Nat} (hb : vm_pathAt b) {kd : Nat → Nat} {gl sp : Nat → Int32} {wy : Nat → Bool} {er : Nat → Nat} {top law n gn : Nat} {fin : Int32} (hn : n ≤ 6) (hE : sE n er) (hk : ∀ p, kd p < 2 ^ 31) (hl : law < 2 ^ 31) : vm_RV G 2 mX2_goHalf [.ref b] (vm_P σ b (kd, gl, sp, wy, er, top, law, n, gn, fin)) (fun σ' => σ' = vm_P σ b (sH (kd, gl, sp, wy, er, top, law, n, gn, fin))) := by
  refine vm_void (y := mX2_goHalf) (by decide) (Nat.le_of_ble_eq_true rfl) (ls0 := [some (.ref b), none, none]) rfl rfl (fun C F K => ?_)
  have F : vm_F G C cX2_goHalf RX2 3 _ := F
  show vm_Ex G C 3 0 [some (.ref b), none, none] [] _
  obtain ⟨spA, wyA, hA⟩ : ∃ x y, sA kd top n (sp, wy) = (x, y) := ⟨_, _, rfl⟩
  have LB : ∀ k i, n ≤ i + k → 1 ≤ i → i ≤ n ∨ (n = 0 ∧ i = 1) → ∀ x, vm_Ex G C 3 33 [some (.ref b), some (.int (nI i)), x] [] (vm_P σ b (kd, gl, spA, (sB kd spA law i (wyA, er)).1, (sB kd spA law i (wyA, er)).2, top, law, n, gn, fin)) := by
    intro k
    induction k with
    | zero =>
      intro i h1 h2 h3 x
      refine q_iload_n F 1 dX2_goHalf_33 rfl rfl ?_
      refine q_aload_n F 0 dX2_goHalf_34 rfl rfl ?_
      refine gpX2_34 F dX2_goHalf_35 hb ?_
      refine n_ge F 75 dX2_goHalf_38 (by decide) (by omega) (by omega) (fun c_38 => ?_) (fun c_38 => ?_)
      · have eB : sB kd spA law i (wyA, er) = sB kd spA law n (wyA, er) := by
          rcases h3 with h3 | ⟨rfl, rfl⟩
          · rw [show i = n by omega]
          · rfl
        rw [eB]
        have hEB : sE n (sB kd spA law n (wyA, er)).2 := sE_B (s := (wyA, er)) hE n (Nat.le_refl _)
        refine q_aload_n F 0 dX2_goHalf_75 rfl rfl ?_
        refine q_dup F dX2_goHalf_76 rfl ?_
        refine gpX2_37 F dX2_goHalf_77 hb ?_
        refine q_iconst F (nI 1) dX2_goHalf_80 (by decide) ?_
        refine n_iadd F dX2_goHalf_81 ?_
        refine ppX2_37 F dX2_goHalf_82 hb ?_
        refine q_aload_n F 0 dX2_goHalf_85 rfl rfl ?_
        refine iX2_64 F dX2_goHalf_86 (c_finish hb hn (fun p hp => Nat.lt_of_lt_of_le (hEB p hp) hn)) (by decide) hb.1 rfl rfl (Nat.le_of_ble_eq_true rfl) (fun σ_86 h_86 => ?_)
        subst h_86
        refine K _ _ _ ?_ dX2_goHalf_89
        simp [sH, hA]
      · omega
    | succ k ih =>
      intro i h1 h2 h3 x
      refine q_iload_n F 1 dX2_goHalf_33 rfl rfl ?_
      refine q_aload_n F 0 dX2_goHalf_34 rfl rfl ?_
      refine gpX2_34 F dX2_goHalf_35 hb ?_
      refine n_ge F 75 dX2_goHalf_38 (by decide) (by omega) (by omega) (fun c_38 => ?_) (fun c_38 => ?_)
      · have eB : sB kd spA law i (wyA, er) = sB kd spA law n (wyA, er) := by
          rcases h3 with h3 | ⟨rfl, rfl⟩
          · rw [show i = n by omega]
          · rfl
        rw [eB]
        have hEB : sE n (sB kd spA law n (wyA, er)).2 := sE_B (s := (wyA, er)) hE n (Nat.le_refl _)
        refine q_aload_n F 0 dX2_goHalf_75 rfl rfl ?_
        refine q_dup F dX2_goHalf_76 rfl ?_
        refine gpX2_37 F dX2_goHalf_77 hb ?_
        refine q_iconst F (nI 1) dX2_goHalf_80 (by decide) ?_
        refine n_iadd F dX2_goHalf_81 ?_
        refine ppX2_37 F dX2_goHalf_82 hb ?_
        refine q_aload_n F 0 dX2_goHalf_85 rfl rfl ?_
        refine iX2_64 F dX2_goHalf_86 (c_finish hb hn (fun p hp => Nat.lt_of_lt_of_le (hEB p hp) hn)) (by decide) hb.1 rfl rfl (Nat.le_of_ble_eq_true rfl) (fun σ_86 h_86 => ?_)
        subst h_86
        refine K _ _ _ ?_ dX2_goHalf_89
        simp [sH, hA]
      · refine q_iconst F (nI 0) dX2_goHalf_41 (by decide) ?_
        refine q_istore_n2 F dX2_goHalf_42 (by decide) rfl ?_
        have LI : ∀ k2 j, j + k2 = i → vm_Ex G C 3 43 [some (.ref b), some (.int (nI i)), some (.int (nI j))] [] (vm_P σ b (kd, gl, spA, (sBq kd spA law i j (sB kd spA law i (wyA, er))).1, (sBq kd spA law i j (sB kd spA law i (wyA, er))).2, top, law, n, gn, fin)) := by
          intro k2
          induction k2 with
          | zero =>
            intro j hj
            refine q_iload_n F 2 dX2_goHalf_43 rfl rfl ?_
            refine q_iload_n F 1 dX2_goHalf_44 rfl rfl ?_
            refine n_ge F 69 dX2_goHalf_45 (by decide) (by omega) (by omega) (fun c_45 => ?_) (fun c_45 => ?_)
            · have e : j = i := by omega
              subst e
              refine q_iinc1 F _ dX2_goHalf_69 (nI_inc _) (by decide) rfl ?_
              refine q_goto F 33 dX2_goHalf_72 (by decide) ?_
              exact ih (j + 1) (by omega) (by omega) (by omega) _
            · omega
          | succ k2 ih2 =>
            intro j hj
            refine q_iload_n F 2 dX2_goHalf_43 rfl rfl ?_
            refine q_iload_n F 1 dX2_goHalf_44 rfl rfl ?_
            refine n_ge F 69 dX2_goHalf_45 (by decide) (by omega) (by omega) (fun c_45 => ?_) (fun c_45 => ?_)
            · omega
            · refine q_aload_n F 0 dX2_goHalf_48 rfl rfl ?_
              refine q_iload_n F 1 dX2_goHalf_49 rfl rfl ?_
              refine q_iload_n F 2 dX2_goHalf_50 rfl rfl ?_
              refine iX2_56 F dX2_goHalf_51 (c_doMeet hb (by omega) (by omega) (hk _) (hk _)) (by decide) hb.1 rfl rfl (Nat.le_of_ble_eq_true rfl) (fun v_51 σ_51 h_51 => ?_)
              obtain ⟨rfl, rfl⟩ := h_51
              refine b_eq F 63 dX2_goHalf_54 (by decide) (fun c_54 => ?_) (fun c_54 => ?_)
              · refine q_iinc2 F _ dX2_goHalf_63 (nI_inc _) (by decide) rfl ?_
                refine q_goto F 43 dX2_goHalf_66 (by decide) ?_
                have hh := ih2 (j + 1) (by omega)
                simp only [sBq, sMq, c_54, if_true, if_false, Bool.false_eq_true] at hh
                exact hh
              · refine q_aload_n F 0 dX2_goHalf_57 rfl rfl ?_
                refine q_iload_n F 1 dX2_goHalf_58 rfl rfl ?_
                refine q_iload_n F 2 dX2_goHalf_59 rfl rfl ?_
                refine iX2_60 F dX2_goHalf_60 (c_meet hb (by omega) (by omega) hl) (by decide) hb.1 rfl rfl (Nat.le_of_ble_eq_true rfl) (fun σ_60 h_60 => ?_)
                subst h_60
                refine q_iinc2 F _ dX2_goHalf_63 (nI_inc _) (by decide) rfl ?_
                refine q_goto F 43 dX2_goHalf_66 (by decide) ?_
                have hh := ih2 (j + 1) (by omega)
                simp only [sBq, sMq, c_54, if_true, if_false, Bool.false_eq_true] at hh
                exact hh
        exact LI i 0 (by omega)
  have LA : ∀ k i, i + k = n → vm_Ex G C 3 2 [some (.ref b), some (.int (nI i)), none] [] (vm_P σ b (kd, gl, (sA kd top i (sp, wy)).1, (sA kd top i (sp, wy)).2, er, top, law, n, gn, fin)) := by
    intro k
    induction k with
    | zero =>
      intro i hi
      refine q_iload_n F 1 dX2_goHalf_2 rfl rfl ?_
      refine q_aload_n F 0 dX2_goHalf_3 rfl rfl ?_
      refine gpX2_34 F dX2_goHalf_4 hb ?_
      refine n_ge F 31 dX2_goHalf_7 (by decide) (by omega) (by omega) (fun c_7 => ?_) (fun c_7 => ?_)
      · refine q_iconst F (nI 1) dX2_goHalf_31 (by decide) ?_
        refine q_istore_n1 F dX2_goHalf_32 (by decide) rfl ?_
        rw [show i = n by omega, hA]
        exact LB n 1 (by omega) (by omega) (by omega) _
      · omega
    | succ k ih =>
      intro i hi
      refine q_iload_n F 1 dX2_goHalf_2 rfl rfl ?_
      refine q_aload_n F 0 dX2_goHalf_3 rfl rfl ?_
      refine gpX2_34 F dX2_goHalf_4 hb ?_
      refine n_ge F 31 dX2_goHalf_7 (by decide) (by omega) (by omega) (fun c_7 => ?_) (fun c_7 => ?_)
      · omega
      · refine q_aload_n F 0 dX2_goHalf_10 rfl rfl ?_
        refine gpX2_9 F dX2_goHalf_11 hb ?_
        refine q_iload_n F 1 dX2_goHalf_14 rfl rfl ?_
        refine ld_kd F dX2_goHalf_15 hb (by omega) ?_
        refine q_iconst F (nI 5) dX2_goHalf_16 (by decide) ?_
        refine n_eq F 25 dX2_goHalf_17 (by decide) (hk _) (by omega) (fun c_17 => ?_) (fun c_17 => ?_)
        · refine q_iinc1 F _ dX2_goHalf_25 (nI_inc _) (by decide) rfl ?_
          refine q_goto F 2 dX2_goHalf_28 (by decide) ?_
          have hh := ih (i + 1) (by omega)
          first
            | (simp only [sA, if_pos c_17] at hh; exact hh)
            | (simp only [sA, if_neg c_17] at hh; exact hh)
        · refine q_aload_n F 0 dX2_goHalf_20 rfl rfl ?_
          refine q_iload_n F 1 dX2_goHalf_21 rfl rfl ?_
          refine iX2_52 F dX2_goHalf_22 (c_walk hb (by omega)) (by decide) hb.1 rfl rfl (Nat.le_of_ble_eq_true rfl) (fun σ_22 h_22 => ?_)
          subst h_22
          refine q_iinc1 F _ dX2_goHalf_25 (nI_inc _) (by decide) rfl ?_
          refine q_goto F 2 dX2_goHalf_28 (by decide) ?_
          have hh := ih (i + 1) (by omega)
          first
            | (simp only [sA, if_pos c_17] at hh; exact hh)
            | (simp only [sA, if_neg c_17] at hh; exact hh)
  refine q_iconst F (nI 0) dX2_goHalf_0 (by decide) ?_
  refine q_istore_n1 F dX2_goHalf_1 (by decide) rfl ?_
  exact LA n 0 (by omega)
theorem c_goHalfv {G : vm_G} {σ : vm_M} {b : Nat} (hb : vm_pathAt b) (v : vm_V) (hn : V_n v ≤ 6) (hE : sE (V_n v) (V_er v)) (hk : ∀ p, V_kd v p < 2 ^ 31) (hl : V_law v < 2 ^ 31) : vm_RV G 2 mX2_goHalf [.ref b] (vm_P σ b v) (fun σ' => σ' = vm_P σ b (sH v)) := by
  obtain ⟨kd, gl, sp, wy, er, top, law, n, gn, fin⟩ := v
  exact c_goHalf hb hn hE hk hl
def sOk (v : vm_V) : Prop := V_n v ≤ 6 ∧ sE (V_n v) (V_er v) ∧ (∀ p, V_kd v p < 6) ∧ V_law v < 3
theorem sOk_H {v : vm_V} (h : sOk v) : sOk (sH v) := ⟨h.1, sE_H h.2.1, h.2.2.1, h.2.2.2⟩
theorem sOk_Hs {v : vm_V} (h : sOk v) : ∀ i, sOk (sHs i v)
  | 0 => h
  | i + 1 => sOk_H (sOk_Hs h i)
theorem c_half {G : vm_G} {σ : vm_M} {b : Nat} (hb : vm_pathAt b) {v : vm_V} (h : sOk v) : vm_RV G 2 mX2_goHalf [.ref b] (vm_P σ b v) (fun σ' => σ' = vm_P σ b (sH v)) :=
  c_goHalfv hb v h.1 h.2.1 (fun p => Nat.lt_of_lt_of_le (h.2.2.1 p) (by decide)) (Nat.lt_of_lt_of_le h.2.2.2 (by decide))
set_option maxHeartbeats 4000000 in
set_option maxRecDepth 100000 in
theorem c_holder0 {G : vm_G} {σ : vm_M} {b : Nat} (hb : vm_pathAt b) {kd : Nat → Nat} {gl sp : Nat → Int32} {wy : Nat → Bool} {er : Nat → Nat} {top law n gn : Nat} {fin : Int32} {e : Nat} (hn : n ≤ 6) (h1 : 1 ≤ n) (hE : sE n er) (he : e < 6) : vm_RI G 0 mX2_holder [.ref b, .int (nI e)] (vm_P σ b (kd, gl, sp, wy, er, top, law, n, gn, fin)) (fun r σ' => r = nI (sF (fun p => er p == e) (n - 1)) ∧ σ' = vm_P σ b (kd, gl, sp, wy, er, top, law, n, gn, fin)) := by
  refine vm_int (y := mX2_holder) (by decide) (Nat.le_of_ble_eq_true rfl) (ls0 := [some (.ref b), some (.int (nI e)), none]) rfl rfl (fun C F K => ?_)
  have F : vm_F G C cX2_holder RX2 3 _ := F
  show vm_Ex G C 3 0 [some (.ref b), some (.int (nI e)), none] [] _
  have L : ∀ k i, (∀ p, p < i → er p ≠ e) → i + k = n - 1 → vm_Ex G C 3 2 [some (.ref b), some (.int (nI e)), some (.int (nI i))] [] (vm_P σ b (kd, gl, sp, wy, er, top, law, n, gn, fin)) := by
    intro k
    induction k with
    | zero =>
      intro i hh hi
      refine q_iload_n F 2 dX2_holder_2 rfl rfl ?_
      refine q_aload_n F 0 dX2_holder_3 rfl rfl ?_
      refine gpX2_34 F dX2_holder_4 hb ?_
      refine q_iconst F (nI 1) dX2_holder_7 (by decide) ?_
      refine n_isub F dX2_holder_8 (by omega) ?_
      refine n_ge F 28 dX2_holder_9 (by decide) (by omega) (by omega) (fun c_9 => ?_) (fun c_9 => ?_)
      · refine q_iload_n F 2 dX2_holder_28 rfl rfl ?_
        refine K _ _ _ _ ?_ dX2_holder_29 rfl
        refine ⟨?_, rfl⟩
        rw [sF_none (fun p hp => by simpa using hh p (by omega)), show i = n - 1 by omega]
      · omega
    | succ k ih =>
      intro i hh hi
      refine q_iload_n F 2 dX2_holder_2 rfl rfl ?_
      refine q_aload_n F 0 dX2_holder_3 rfl rfl ?_
      refine gpX2_34 F dX2_holder_4 hb ?_
      refine q_iconst F (nI 1) dX2_holder_7 (by decide) ?_
      refine n_isub F dX2_holder_8 (by omega) ?_
      refine n_ge F 28 dX2_holder_9 (by decide) (by omega) (by omega) (fun c_9 => ?_) (fun c_9 => ?_)
      · omega
      · have h6 := hE i (by omega)
        refine q_aload_n F 0 dX2_holder_12 rfl rfl ?_
        refine gpX2_24 F dX2_holder_13 hb ?_
        refine q_iload_n F 2 dX2_holder_16 rfl rfl ?_
        refine ld_er F dX2_holder_17 hb (by omega) ?_
        refine q_iload_n F 1 dX2_holder_18 rfl rfl ?_
        refine n_eq F 28 dX2_holder_19 (by decide) (by omega) (by omega) (fun c_19 => ?_) (fun c_19 => ?_)
        · refine q_iload_n F 2 dX2_holder_28 rfl rfl ?_
          refine K _ _ _ _ ?_ dX2_holder_29 rfl
          refine ⟨?_, rfl⟩
          rw [sF_at (i := i) (fun p hp => by simpa using hh p hp) (by simpa using c_19) (by omega)]
        · refine q_iinc2 F _ dX2_holder_22 (nI_inc _) (by decide) rfl ?_
          refine q_goto F 2 dX2_holder_25 (by decide) ?_
          exact ih (i + 1) (fun p hp => by
            rcases Nat.lt_or_ge p i with q | q
            · exact hh p q
            · rw [show p = i by omega]; exact c_19) (by omega)
  refine q_iconst F (nI 0) dX2_holder_0 (by decide) ?_
  refine q_istore_n2 F dX2_holder_1 (by decide) rfl ?_
  exact L (n - 1) 0 (fun p hp => absurd hp (Nat.not_lt_zero _)) (by omega)
theorem c_holder {G : vm_G} {σ : vm_M} {b : Nat} (hb : vm_pathAt b) {v : vm_V} {e : Nat} (h : sOk v) (h1 : e < V_n v) : vm_RI G 0 mX2_holder [.ref b, .int (nI e)] (vm_P σ b v) (fun r σ' => r = nI (sHold e v) ∧ σ' = vm_P σ b v) := by
  obtain ⟨kd, gl, sp, wy, er, top, law, n, gn, fin⟩ := v
  have hn : n ≤ 6 := h.1
  have h1 : e < n := h1
  exact c_holder0 hb hn (by omega) h.2.1 (by omega)
set_option maxHeartbeats 4000000 in
set_option maxRecDepth 100000 in
theorem c_goHalves {G : vm_G} {σ : vm_M} {b : Nat} (hb : vm_pathAt b) {v : vm_V} (h : sOk v) {m : Nat} (hm : m < 2 ^ 31) : vm_RV G 3 mX2_goHalves [.ref b, .int (nI m)] (vm_P σ b v) (fun σ' => σ' = vm_P σ b (sHs m v)) := by
  refine vm_void (y := mX2_goHalves) (by decide) (Nat.le_of_ble_eq_true rfl) (ls0 := [some (.ref b), some (.int (nI m)), none]) rfl rfl (fun C F K => ?_)
  have F : vm_F G C cX2_goHalves RX2 3 _ := F
  show vm_Ex G C 3 0 [some (.ref b), some (.int (nI m)), none] [] _
  have L : ∀ k i, i + k = m → vm_Ex G C 3 2 [some (.ref b), some (.int (nI m)), some (.int (nI i))] [] (vm_P σ b (sHs i v)) := by
    intro k
    induction k with
    | zero =>
      intro i hi
      refine q_iload_n F 2 dX2_goHalves_2 rfl rfl ?_
      refine q_iload_n F 1 dX2_goHalves_3 rfl rfl ?_
      refine n_ge F 17 dX2_goHalves_4 (by decide) (by omega) (by omega) (fun c_4 => ?_) (fun c_4 => ?_)
      · refine K _ _ _ ?_ dX2_goHalves_17
        rw [show i = m by omega]
      · omega
    | succ k ih =>
      intro i hi
      refine q_iload_n F 2 dX2_goHalves_2 rfl rfl ?_
      refine q_iload_n F 1 dX2_goHalves_3 rfl rfl ?_
      refine n_ge F 17 dX2_goHalves_4 (by decide) (by omega) (by omega) (fun c_4 => ?_) (fun c_4 => ?_)
      · omega
      · refine q_aload_n F 0 dX2_goHalves_7 rfl rfl ?_
        refine iX2_49 F dX2_goHalves_8 (c_half hb (sOk_Hs h i)) (by decide) hb.1 rfl rfl (Nat.le_of_ble_eq_true rfl) (fun σ_8 h_8 => ?_)
        subst h_8
        refine q_iinc2 F _ dX2_goHalves_11 (nI_inc _) (by decide) rfl ?_
        refine q_goto F 2 dX2_goHalves_14 (by decide) ?_
        exact ih (i + 1) (by omega)
  refine q_iconst F (nI 0) dX2_goHalves_0 (by decide) ?_
  refine q_istore_n2 F dX2_goHalves_1 (by decide) rfl ?_
  exact L m 0 (by omega)
set_option maxHeartbeats 4000000 in
set_option maxRecDepth 100000 in
theorem c_halvesUntil {G : vm_G} {σ : vm_M} {b : Nat} (hb : vm_pathAt b) {v : vm_V} (h : sOk v) {m : Nat} (hm : m < 2 ^ 30) (w : Int32) : vm_RI G 3 mX2_halvesUntil [.ref b, .int w, .int (nI m)] (vm_P σ b v) (fun r σ' => (sU w v m ≤ m ∧ r = nI (sU w v m) ∧ σ' = vm_P σ b (sHs (sU w v m) v)) ∨ (m < sU w v m ∧ r = -1000000 ∧ σ' = vm_P σ b (sHs m v))) := by
  refine vm_int (y := mX2_halvesUntil) (by decide) (Nat.le_of_ble_eq_true rfl) (ls0 := [some (.ref b), some (.int w), some (.int (nI m)), none]) rfl rfl (fun C F K => ?_)
  have F : vm_F G C cX2_halvesUntil RX2 4 _ := F
  show vm_Ex G C 4 0 [some (.ref b), some (.int w), some (.int (nI m)), none] [] _
  have LE : ∀ i, (∀ p, p < i → ¬ V_fin (sHs p v) &&& w = w) → i = m + 1 → vm_Ex G C 4 2 [some (.ref b), some (.int w), some (.int (nI m)), some (.int (nI i))] [] (vm_P σ b (sHs m v)) := by
    intro i hh hi
    refine q_iload_n F 3 dX2_halvesUntil_2 rfl rfl ?_
    refine q_iload_n F 2 dX2_halvesUntil_3 rfl rfl ?_
    refine n_gt F 34 dX2_halvesUntil_4 (by decide) (by omega) (by omega) (fun c_4 => ?_) (fun c_4 => ?_)
    · refine q_ldc F dX2_halvesUntil_34 wX2_70 ?_
      refine K _ _ _ _ ?_ dX2_halvesUntil_36 rfl
      right
      have e : sU w v m = m + 1 := sF_none (fun p hp => by simpa using hh p (by omega))
      rw [e]
      exact ⟨by omega, rfl, rfl⟩
    · omega
  have L : ∀ k i, (∀ p, p < i → ¬ V_fin (sHs p v) &&& w = w) → i + k = m → vm_Ex G C 4 2 [some (.ref b), some (.int w), some (.int (nI m)), some (.int (nI i))] [] (vm_P σ b (sHs i v)) := by
    intro k
    induction k with
    | zero =>
      intro i hh hi
      refine q_iload_n F 3 dX2_halvesUntil_2 rfl rfl ?_
      refine q_iload_n F 2 dX2_halvesUntil_3 rfl rfl ?_
      refine n_gt F 34 dX2_halvesUntil_4 (by decide) (by omega) (by omega) (fun c_4 => ?_) (fun c_4 => ?_)
      · omega
      · refine q_aload_n F 0 dX2_halvesUntil_7 rfl rfl ?_
        refine gpX2_40 F dX2_halvesUntil_8 hb ?_
        refine q_iload_n F 1 dX2_halvesUntil_11 rfl rfl ?_
        refine q_iand F dX2_halvesUntil_12 ?_
        refine q_iload_n F 1 dX2_halvesUntil_13 rfl rfl ?_
        refine q_icmp_ne F 19 dX2_halvesUntil_14 (by decide) (fun c_14 => ?_) (fun c_14 => ?_)
        · refine q_iload_n F 3 dX2_halvesUntil_19 rfl rfl ?_
          refine q_iload_n F 2 dX2_halvesUntil_20 rfl rfl ?_
          refine n_ge F 28 dX2_halvesUntil_21 (by decide) (by omega) (by omega) (fun c_21 => ?_) (fun c_21 => ?_)
          · refine q_iinc3 F _ dX2_halvesUntil_28 (nI_inc _) (by decide) rfl ?_
            refine q_goto F 2 dX2_halvesUntil_31 (by decide) ?_
            rw [show i = m by omega]
            exact LE (m + 1) (fun p hp => by
              rcases Nat.lt_or_ge p i with q | q
              · exact hh p q
              · rw [show p = i by omega]; exact c_14) rfl
          · omega
        · refine q_iload_n F 3 dX2_halvesUntil_17 rfl rfl ?_
          refine K _ _ _ _ ?_ dX2_halvesUntil_18 rfl
          left
          have e : sU w v m = i := sF_at (fun p hp => by simpa using hh p hp) (by simpa using c_14) (by omega)
          rw [e]
          exact ⟨by omega, rfl, rfl⟩
    | succ k ih =>
      intro i hh hi
      refine q_iload_n F 3 dX2_halvesUntil_2 rfl rfl ?_
      refine q_iload_n F 2 dX2_halvesUntil_3 rfl rfl ?_
      refine n_gt F 34 dX2_halvesUntil_4 (by decide) (by omega) (by omega) (fun c_4 => ?_) (fun c_4 => ?_)
      · omega
      · refine q_aload_n F 0 dX2_halvesUntil_7 rfl rfl ?_
        refine gpX2_40 F dX2_halvesUntil_8 hb ?_
        refine q_iload_n F 1 dX2_halvesUntil_11 rfl rfl ?_
        refine q_iand F dX2_halvesUntil_12 ?_
        refine q_iload_n F 1 dX2_halvesUntil_13 rfl rfl ?_
        refine q_icmp_ne F 19 dX2_halvesUntil_14 (by decide) (fun c_14 => ?_) (fun c_14 => ?_)
        · refine q_iload_n F 3 dX2_halvesUntil_19 rfl rfl ?_
          refine q_iload_n F 2 dX2_halvesUntil_20 rfl rfl ?_
          refine n_ge F 28 dX2_halvesUntil_21 (by decide) (by omega) (by omega) (fun c_21 => ?_) (fun c_21 => ?_)
          · omega
          · refine q_aload_n F 0 dX2_halvesUntil_24 rfl rfl ?_
            refine iX2_49 F dX2_halvesUntil_25 (c_half hb (sOk_Hs h i)) (by decide) hb.1 rfl rfl (Nat.le_of_ble_eq_true rfl) (fun σ_25 h_25 => ?_)
            subst h_25
            refine q_iinc3 F _ dX2_halvesUntil_28 (nI_inc _) (by decide) rfl ?_
            refine q_goto F 2 dX2_halvesUntil_31 (by decide) ?_
            exact ih (i + 1) (fun p hp => by
              rcases Nat.lt_or_ge p i with q | q
              · exact hh p q
              · rw [show p = i by omega]; exact c_14) (by omega)
        · refine q_iload_n F 3 dX2_halvesUntil_17 rfl rfl ?_
          refine K _ _ _ _ ?_ dX2_halvesUntil_18 rfl
          left
          have e : sU w v m = i := sF_at (fun p hp => by simpa using hh p hp) (by simpa using c_14) (by omega)
          rw [e]
          exact ⟨by omega, rfl, rfl⟩
  refine q_iconst F (nI 0) dX2_halvesUntil_0 (by decide) ?_
  refine q_istore_n3 F dX2_halvesUntil_1 (by decide) rfl ?_
  exact L m 0 (fun p hp => absurd hp (Nat.not_lt_zero _)) (by omega)
set_option maxHeartbeats 4000000 in
set_option maxRecDepth 100000 in
theorem c_holdersAhead {G : vm_G} {σ : vm_M} {b : Nat} (hb : vm_pathAt b) {v : vm_V} (h : sOk v) {e m : Nat} (he : e < V_n v) (hm : m < 2 ^ 31) : vm_RI G 3 mX2_holdersAhead [.ref b, .int (nI e), .int (nI m)] (vm_P σ b v) (fun r σ' => r = sS e v m ∧ σ' = vm_P σ b (sHs m v)) := by
  refine vm_int (y := mX2_holdersAhead) (by decide) (Nat.le_of_ble_eq_true rfl) (ls0 := [some (.ref b), some (.int (nI e)), some (.int (nI m)), none, none]) rfl rfl (fun C F K => ?_)
  have F : vm_F G C cX2_holdersAhead RX2 5 _ := F
  show vm_Ex G C 5 0 [some (.ref b), some (.int (nI e)), some (.int (nI m)), none, none] [] _
  have L : ∀ k i, i + k = m → vm_Ex G C 5 11 [some (.ref b), some (.int (nI e)), some (.int (nI m)), some (.int (sS e v i)), some (.int (nI i))] [] (vm_P σ b (sHs i v)) := by
    intro k
    induction k with
    | zero =>
      intro i hi
      refine q_iload F 4 dX2_holdersAhead_11 rfl ?_
      refine q_iload_n F 2 dX2_holdersAhead_13 rfl rfl ?_
      refine n_ge F 37 dX2_holdersAhead_14 (by decide) (by omega) (by omega) (fun c_14 => ?_) (fun c_14 => ?_)
      · refine q_iload_n F 3 dX2_holdersAhead_37 rfl rfl ?_
        refine K _ _ _ _ ?_ dX2_holdersAhead_38 rfl
        rw [show i = m by omega]
        exact ⟨rfl, rfl⟩
      · omega
    | succ k ih =>
      intro i hi
      refine q_iload F 4 dX2_holdersAhead_11 rfl ?_
      refine q_iload_n F 2 dX2_holdersAhead_13 rfl rfl ?_
      refine n_ge F 37 dX2_holdersAhead_14 (by decide) (by omega) (by omega) (fun c_14 => ?_) (fun c_14 => ?_)
      · omega
      · refine q_aload_n F 0 dX2_holdersAhead_17 rfl rfl ?_
        refine iX2_49 F dX2_holdersAhead_18 (c_half hb (sOk_Hs h i)) (by decide) hb.1 rfl rfl (Nat.le_of_ble_eq_true rfl) (fun σ_18 h_18 => ?_)
        subst h_18
        refine q_iload_n F 3 dX2_holdersAhead_21 rfl rfl ?_
        refine q_iconst F (nI 1) dX2_holdersAhead_22 (by decide) ?_
        refine q_aload_n F 0 dX2_holdersAhead_23 rfl rfl ?_
        refine q_iload_n F 1 dX2_holdersAhead_24 rfl rfl ?_
        refine iX2_71 F dX2_holdersAhead_25 (c_holder (v := sHs (i + 1) v) hb (sOk_Hs h (i + 1)) (by rw [sHs_n]; exact he)) (by decide) hb.1 rfl rfl (Nat.le_of_ble_eq_true rfl) (fun v_25 σ_25 h_25 => ?_)
        obtain ⟨rfl, rfl⟩ := h_25
        refine q_ishl F dX2_holdersAhead_28 ?_
        refine q_ior F dX2_holdersAhead_29 ?_
        refine q_istore_n3 F dX2_holdersAhead_30 (by decide) rfl ?_
        refine q_iinc4 F _ dX2_holdersAhead_31 (nI_inc _) (by decide) rfl ?_
        refine q_goto F 11 dX2_holdersAhead_34 (by decide) ?_
        exact ih (i + 1) (by omega)
  refine q_iconst F (nI 1) dX2_holdersAhead_0 (by decide) ?_
  refine q_aload_n F 0 dX2_holdersAhead_1 rfl rfl ?_
  refine q_iload_n F 1 dX2_holdersAhead_2 rfl rfl ?_
  refine iX2_71 F dX2_holdersAhead_3 (c_holder hb h he) (by decide) hb.1 rfl rfl (Nat.le_of_ble_eq_true rfl) (fun v_3 σ_3 h_3 => ?_)
  obtain ⟨rfl, rfl⟩ := h_3
  refine q_ishl F dX2_holdersAhead_6 ?_
  refine q_istore_n3 F dX2_holdersAhead_7 (by decide) rfl ?_
  refine q_iconst F (nI 0) dX2_holdersAhead_8 (by decide) ?_
  refine q_istore4 F dX2_holdersAhead_9 (by decide) rfl ?_
  exact L m 0 (by omega)
