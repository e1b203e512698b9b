def us (x y : Int32) : Int32 := (x.toUInt32 >>> (y.toUInt32 &&& Int32.toUInt32 31)).toInt32
def bc1 (x : Int32) : Int32 := x - (us x (nI 1) &&& 1431655765)
def bc2 (x : Int32) : Int32 := (x &&& 858993459) + (us x (nI 2) &&& 858993459)
def bc3 (x : Int32) : Int32 := (x + us x (nI 4)) &&& 252645135
def bc4 (x : Int32) : Int32 := x + us x (nI 8)
def bc5 (x : Int32) : Int32 := x + us x (nI 16)
theorem bc_ok : ∀ m, m < 64 → bc5 (bc4 (bc3 (bc2 (bc1 (nI m))))) &&& nI 63 = sPop (nI m) := by decide +kernel
theorem nI_neN {u : Nat} (h : u < 2 ^ 31) : ¬ nI u = -1000000 := by
  intro e
  have := congrArg Int32.toInt e
  rw [nI_toInt h, show (-1000000 : Int32).toInt = -1000000 by decide] at this
  omega
theorem sw4 (x : Int32) : x = nI 0 ∨ x = nI 1 ∨ x = nI 2 ∨ x = nI 3 ∨ ((x.toInt < 0 ∨ 3 < x.toInt) ∧ ¬ x = nI 0 ∧ ¬ x = nI 1 ∧ ¬ x = nI 2 ∧ ¬ x = nI 3) := by
  by_cases h : 0 ≤ x.toInt ∧ x.toInt ≤ 3
  · obtain ⟨j, hj, rfl⟩ := i_of h.1
    rw [nI_toInt hj] at h
    rcases (show j = 0 ∨ j = 1 ∨ j = 2 ∨ j = 3 by omega) with rfl | rfl | rfl | rfl <;> simp
  · refine Or.inr (Or.inr (Or.inr (Or.inr ⟨by omega, ?_, ?_, ?_, ?_⟩))) <;> (intro e; rw [e] at h; revert h; decide)
theorem sw6 (x : Int32) : x = nI 0 ∨ x = nI 1 ∨ x = nI 2 ∨ x = nI 3 ∨ x = nI 4 ∨ x = nI 5 ∨ ((x.toInt < 0 ∨ 5 < x.toInt) ∧ ¬ x = nI 0 ∧ ¬ x = nI 1 ∧ ¬ x = nI 2 ∧ ¬ x = nI 3 ∧ ¬ x = nI 4 ∧ ¬ x = nI 5) := by
  by_cases h : 0 ≤ x.toInt ∧ x.toInt ≤ 5
  · obtain ⟨j, hj, rfl⟩ := i_of h.1
    rw [nI_toInt hj] at h
    rcases (show j = 0 ∨ j = 1 ∨ j = 2 ∨ j = 3 ∨ j = 4 ∨ j = 5 by omega) with rfl | rfl | rfl | rfl | rfl | rfl <;> simp
  · refine Or.inr (Or.inr (Or.inr (Or.inr (Or.inr (Or.inr ⟨by omega, ?_, ?_, ?_, ?_, ?_, ?_⟩))))) <;> (intro e; rw [e] at h; revert h; decide)
theorem nn1 : ¬ nI 1 = nI 0 := by decide
theorem nn2 : ¬ nI 2 = nI 0 ∧ ¬ nI 2 = nI 1 := by decide
theorem nn3 : ¬ nI 3 = nI 0 ∧ ¬ nI 3 = nI 1 ∧ ¬ nI 3 = nI 2 := by decide
theorem nn4 : ¬ nI 4 = nI 0 ∧ ¬ nI 4 = nI 1 ∧ ¬ nI 4 = nI 2 ∧ ¬ nI 4 = nI 3 := by decide
theorem nn5 : ¬ nI 5 = nI 0 ∧ ¬ nI 5 = nI 1 ∧ ¬ nI 5 = nI 2 ∧ ¬ nI 5 = nI 3 ∧ ¬ nI 5 = nI 4 := by decide
set_option maxHeartbeats 4000000 in
set_option maxRecDepth 100000 in
theorem c_bitCount {G : vm_G} {σ : vm_M} {m : Nat} (hm : m < 64) : vm_RI G 0 mJ6_bitCount_0f7a4 [.int (nI m)] σ (fun r σ' => r = sPop (nI m) ∧ σ' = σ) := by
  refine vm_int (y := mJ6_bitCount_0f7a4) (by decide) (Nat.le_of_ble_eq_true rfl) (ls0 := [some (.int (nI m))]) rfl rfl (fun C F K => ?_)
  have F : vm_F G C cJ6_bitCount_0f7a4 RJ6 1 _ := F
  show vm_Ex G C 1 0 [some (.int (nI m))] [] _
  refine q_iload_n F 0 dJ6_bitCount_0f7a4_0 rfl rfl ?_
  refine q_iload_n F 0 dJ6_bitCount_0f7a4_1 rfl rfl ?_
  refine q_iconst F (nI 1) dJ6_bitCount_0f7a4_2 (by decide) ?_
  refine q_iushr F dJ6_bitCount_0f7a4_3 ?_
  refine q_ldcw F dJ6_bitCount_0f7a4_4 wJ6_265 ?_
  refine q_iand F dJ6_bitCount_0f7a4_7 ?_
  refine q_isub F dJ6_bitCount_0f7a4_8 ?_
  refine q_istore_n0 F dJ6_bitCount_0f7a4_9 (by decide) ?_
  refine q_iload_n F 0 dJ6_bitCount_0f7a4_10 rfl rfl ?_
  refine q_ldcw F dJ6_bitCount_0f7a4_11 wJ6_266 ?_
  refine q_iand F dJ6_bitCount_0f7a4_14 ?_
  refine q_iload_n F 0 dJ6_bitCount_0f7a4_15 rfl rfl ?_
  refine q_iconst F (nI 2) dJ6_bitCount_0f7a4_16 (by decide) ?_
  refine q_iushr F dJ6_bitCount_0f7a4_17 ?_
  refine q_ldcw F dJ6_bitCount_0f7a4_18 wJ6_266 ?_
  refine q_iand F dJ6_bitCount_0f7a4_21 ?_
  refine q_iadd F dJ6_bitCount_0f7a4_22 ?_
  refine q_istore_n0 F dJ6_bitCount_0f7a4_23 (by decide) ?_
  refine q_iload_n F 0 dJ6_bitCount_0f7a4_24 rfl rfl ?_
  refine q_iload_n F 0 dJ6_bitCount_0f7a4_25 rfl rfl ?_
  refine q_iconst F (nI 4) dJ6_bitCount_0f7a4_26 (by decide) ?_
  refine q_iushr F dJ6_bitCount_0f7a4_27 ?_
  refine q_iadd F dJ6_bitCount_0f7a4_28 ?_
  refine q_ldcw F dJ6_bitCount_0f7a4_29 wJ6_267 ?_
  refine q_iand F dJ6_bitCount_0f7a4_32 ?_
  refine q_istore_n0 F dJ6_bitCount_0f7a4_33 (by decide) ?_
  refine q_iload_n F 0 dJ6_bitCount_0f7a4_34 rfl rfl ?_
  refine q_iload_n F 0 dJ6_bitCount_0f7a4_35 rfl rfl ?_
  refine q_bipush F (nI 8) dJ6_bitCount_0f7a4_36 (by decide) ?_
  refine q_iushr F dJ6_bitCount_0f7a4_38 ?_
  refine q_iadd F dJ6_bitCount_0f7a4_39 ?_
  refine q_istore_n0 F dJ6_bitCount_0f7a4_40 (by decide) ?_
  refine q_iload_n F 0 dJ6_bitCount_0f7a4_41 rfl rfl ?_
  refine q_iload_n F 0 dJ6_bitCount_0f7a4_42 rfl rfl ?_
  refine q_bipush F (nI 16) dJ6_bitCount_0f7a4_43 (by decide) ?_
  refine q_iushr F dJ6_bitCount_0f7a4_45 ?_
  refine q_iadd F dJ6_bitCount_0f7a4_46 ?_
  refine q_istore_n0 F dJ6_bitCount_0f7a4_47 (by decide) ?_
  refine q_iload_n F 0 dJ6_bitCount_0f7a4_48 rfl rfl ?_
  refine q_bipush F (nI 63) dJ6_bitCount_0f7a4_49 (by decide) ?_
  refine q_iand F dJ6_bitCount_0f7a4_51 ?_
  exact K _ _ _ _ (⟨bc_ok m hm, rfl⟩) dJ6_bitCount_0f7a4_52 rfl
set_option maxHeartbeats 4000000 in
set_option maxRecDepth 100000 in
theorem c_rowsThere {G : vm_G} {σ : vm_M} {T : vm_T} (hRows : cRows σ (T_rl T) (T_rn T) (T_ri T)) : vm_RI G 0 mX7_rowsThere [.ref 0] σ (fun r σ' => r = nI (sThere (T_rl T) 8) ∧ σ' = σ) := by
  refine vm_int (y := mX7_rowsThere) (by decide) (Nat.le_of_ble_eq_true rfl) (ls0 := [some (.ref 0), none, none]) rfl rfl (fun C F K => ?_)
  have F : vm_F G C cX7_rowsThere RX7 3 _ := F
  show vm_Ex G C 3 0 [some (.ref 0), none, none] [] _
  have L : ∀ k i, i + k = 8 → vm_Ex G C 3 4 [some (.ref 0), some (.int (nI (sThere (T_rl T) i))), some (.int (nI i))] [] σ := by
    intro k
    induction k with
    | zero =>
      intro i hi
      refine q_iload_n F 2 dX7_rowsThere_4 rfl rfl ?_
      refine q_bipush F (nI 8) dX7_rowsThere_5 (by decide) ?_
      refine n_ge F 31 dX7_rowsThere_7 (by decide) (by omega) (by omega) (fun c_7 => ?_) (fun c_7 => ?_)
      · refine q_iload_n F 1 dX7_rowsThere_31 rfl rfl ?_
        refine K _ _ _ _ ?_ dX7_rowsThere_32 rfl
        rw [show i = 8 by omega]
        exact ⟨rfl, rfl⟩
      · omega
    | succ k ih =>
      intro i hi
      refine q_iload_n F 2 dX7_rowsThere_4 rfl rfl ?_
      refine q_bipush F (nI 8) dX7_rowsThere_5 (by decide) ?_
      refine n_ge F 31 dX7_rowsThere_7 (by decide) (by omega) (by omega) (fun c_7 => ?_) (fun c_7 => ?_)
      · omega
      · refine q_aload_n F 0 dX7_rowsThere_10 rfl rfl ?_
        refine gX7_11 F dX7_rowsThere_11 sh_0 rfl ?_
        refine q_iload_n F 2 dX7_rowsThere_14 rfl rfl ?_
        refine q_aald (r := 174 + 2 * i) F dX7_rowsThere_15 sh_1 (by decide) (by omega) (by decide) (by simp [show i < 8 by omega]) ?_
        refine gX7_92 F dX7_rowsThere_16 (vm_rows i (by omega)).1 rfl ?_
        refine q_top (.int (bI (decide (T_rl T i ≠ 0)))) (congrArg Value.int ((hRows i (by omega)).2.1)) ?_
        refine b_eq F 25 dX7_rowsThere_19 (by decide) (fun c_19 => ?_) (fun c_19 => ?_)
        · refine q_iinc2 F _ dX7_rowsThere_25 (nI_inc _) (by decide) rfl ?_
          refine q_goto F 4 dX7_rowsThere_28 (by decide) ?_
          have hh := ih (i + 1) (by omega)
          simp only [sThere] at hh
          have c0 := c_19
          simp only [decide_eq_true_eq, decide_eq_false_iff_not, ne_eq, Classical.not_not] at c0
          first
            | (rw [if_pos c0] at hh; exact hh)
            | (rw [if_neg c0] at hh; exact hh)
        · refine q_iinc1 F _ dX7_rowsThere_22 (nI_inc _) (by decide) rfl ?_
          refine q_iinc2 F _ dX7_rowsThere_25 (nI_inc _) (by decide) rfl ?_
          refine q_goto F 4 dX7_rowsThere_28 (by decide) ?_
          have hh := ih (i + 1) (by omega)
          simp only [sThere] at hh
          have c0 := c_19
          simp only [decide_eq_true_eq, decide_eq_false_iff_not, ne_eq, Classical.not_not] at c0
          first
            | (rw [if_pos c0] at hh; exact hh)
            | (rw [if_neg c0] at hh; exact hh)
  refine q_iconst F (nI 0) dX7_rowsThere_0 (by decide) ?_
  refine q_istore_n1 F dX7_rowsThere_1 (by decide) rfl ?_
  refine q_iconst F (nI 0) dX7_rowsThere_2 (by decide) ?_
  refine q_istore_n2 F dX7_rowsThere_3 (by decide) rfl ?_
  exact L 8 0 (by omega)
set_option maxHeartbeats 4000000 in
set_option maxRecDepth 100000 in
theorem k_count {G : vm_G} {σ : vm_M} {T : vm_T} (hC : CInv σ T) (hI : SInv T) (w : Int32) : vm_RI G 1 mX7_count [.ref 0, .int w] σ (cPost σ (aCount T w)) := by
  refine vm_int (y := mX7_count) (by decide) (Nat.le_of_ble_eq_true rfl) (ls0 := [some (.ref 0), some (.int w)]) rfl rfl (fun C F K => ?_)
  have F : vm_F G C cX7_count RX7 2 _ := F
  show vm_Ex G C 2 0 [some (.ref 0), some (.int w)] [] _
  obtain ⟨hRows, hTape, hNow, hPast, hImg, hTr, hFlt, hFnd, hDr⟩ := id hC
  have hN := hNow.2
  have hOk : sOk (T_nw T) := hI.1.1
  have hn6 : V_n (T_nw T) ≤ 6 := hOk.1
  obtain ⟨nx, hnx, p1, p2, p3, p4⟩ := id hPast
  obtain ⟨mf, hmf, efin⟩ := hI.1.2.2.1
  have hmf6 : mf < 64 := Nat.lt_of_lt_of_le hmf (pow6 hn6)
  refine q_iload_n F 1 dX7_count_0 rfl rfl ?_
  rcases sw6 w with rfl | rfl | rfl | rfl | rfl | rfl | ⟨hw, h0, h1, h2, h3, h4, h5⟩
  · refine q_tableIn F 40 dX7_count_1 (off := 39) (by decide) (by decide) (by decide) (by decide) ?_
    refine q_aload_n F 0 dX7_count_40 rfl rfl ?_
    refine iX7_237 F dX7_count_41 (c_rowsThere hRows) (by decide) sh_0 rfl rfl (Nat.le_of_ble_eq_true rfl) (fun v_41 σ_41 h_41 => ?_)
    obtain ⟨rfl, rfl⟩ := h_41
    refine K _ _ _ _ ?_ dX7_count_44 rfl
    exact ⟨by simp [aCount, nI_0], hC, fun _ _ => rfl⟩
  · refine q_tableIn F 45 dX7_count_1 (off := 44) (by decide) (by decide) (by decide) (by decide) ?_
    refine q_aload_n F 0 dX7_count_45 rfl rfl ?_
    refine gX7_25 F dX7_count_46 sh_0 rfl ?_
    refine gX7_149 F dX7_count_49 path5.1 rfl ?_
    refine q_top (.int (nI (V_n (T_nw T)))) (congrArg Value.int (hN.n)) ?_
    refine K _ _ _ _ ?_ dX7_count_52 rfl
    exact ⟨by simp [aCount, nn1], hC, fun _ _ => rfl⟩
  · refine q_tableIn F 53 dX7_count_1 (off := 52) (by decide) (by decide) (by decide) (by decide) ?_
    refine q_aload_n F 0 dX7_count_53 rfl rfl ?_
    refine gX7_25 F dX7_count_54 sh_0 rfl ?_
    refine gX7_153 F dX7_count_57 path5.1 rfl ?_
    refine q_top (.int (nI (V_gn (T_nw T)))) (congrArg Value.int (hN.gn)) ?_
    refine K _ _ _ _ ?_ dX7_count_60 rfl
    exact ⟨by simp [aCount, nn2], hC, fun _ _ => rfl⟩
  · refine q_tableIn F 61 dX7_count_1 (off := 60) (by decide) (by decide) (by decide) (by decide) ?_
    refine q_aload_n F 0 dX7_count_61 rfl rfl ?_
    refine gX7_46 F dX7_count_62 sh_0 rfl ?_
    refine gX7_165 F dX7_count_65 sh_25 rfl ?_
    refine q_top (.int (nI (T_pl T))) (congrArg Value.int (p2)) ?_
    refine K _ _ _ _ ?_ dX7_count_68 rfl
    exact ⟨by simp [aCount, nn3], hC, fun _ _ => rfl⟩
  · refine q_tableIn F 69 dX7_count_1 (off := 68) (by decide) (by decide) (by decide) (by decide) ?_
    refine q_aload_n F 0 dX7_count_69 rfl rfl ?_
    refine gX7_25 F dX7_count_70 sh_0 rfl ?_
    refine gX7_156 F dX7_count_73 path5.1 rfl ?_
    refine q_top (.int (nI mf)) (congrArg Value.int (by rw [← efin]; exact hN.fin)) ?_
    refine iX7_211 F dX7_count_76 (c_bitCount hmf6) (by decide) rfl rfl (Nat.le_of_ble_eq_true rfl) (fun v_76 σ_76 h_76 => ?_)
    obtain ⟨rfl, rfl⟩ := h_76
    refine K _ _ _ _ ?_ dX7_count_79 rfl
    exact ⟨by simp only [aCount, nn4, if_false, if_true, efin], hC, fun _ _ => rfl⟩
  · refine q_tableIn F 80 dX7_count_1 (off := 79) (by decide) (by decide) (by decide) (by decide) ?_
    refine q_aload_n F 0 dX7_count_80 rfl rfl ?_
    refine gX7_18 F dX7_count_81 sh_0 rfl ?_
    refine gX7_117 F dX7_count_84 sh_2 rfl ?_
    refine gX7_121 F dX7_count_87 sh_3 rfl ?_
    refine q_top (.int (nI (T_tl T))) (congrArg Value.int (hTape.1)) ?_
    refine K _ _ _ _ ?_ dX7_count_90 rfl
    exact ⟨by simp [aCount, nn5], hC, fun _ _ => rfl⟩
  · refine q_tableOut F 91 dX7_count_1 hw (by decide) ?_
    refine q_ldc F dX7_count_91 wX7_80 ?_
    refine K _ _ _ _ ?_ dX7_count_93 rfl
    exact ⟨by simp [aCount, h0, h1, h2, h3, h4, h5, sBAD], hC, fun _ _ => rfl⟩
theorem CInv.img {σ σ' : vm_M} {T : vm_T} (h : CInv σ T) {j : Nat} (hj : j < 2) {v : vm_V} (h1 : isP σ' (190 + 6 * j) v) (h2 : σ' 24 = upd (σ 24) j (bI true)) (hf : ∀ o, o ≠ 24 → ¬ (190 + 6 * j ≤ o ∧ o ≤ 190 + 6 * j + 5) → σ' o = σ o) : CInv σ' (sT_img T (vm_u (T_im T) j true) (vm_u (T_iv T) j v)) := by
  obtain ⟨g1, g2, g3, g4, g5, g6, g7, g8, w, g9, g10⟩ := h
  have f : ∀ o, o < 190 → o ≠ 24 → σ' o = σ o := fun o a b => hf o b (by omega)
  refine ⟨g1.fr (fun o a b => f o (by omega) (by omega)), g2.fr (f 3 (by omega) (by omega)) (f 4 (by omega) (by omega)), g3.fr (by rw [f 0 (by omega) (by omega)]) (fun o a b => f o (by omega) (by omega)), ?_, ?_, g6.fr (f 171 (by omega) (by omega)) (f 172 (by omega) (by omega)), by rw [f 0 (by omega) (by omega)]; exact g7, by rw [f 0 (by omega) (by omega)]; exact g8, w, g9.fr (fun o a b => f o (by omega) (by omega)), g10⟩
  · exact g4.fr (fun o a b => f o (by omega) (by omega))
  · intro k hk
    obtain ⟨e1, e2⟩ := g5 k hk
    show σ' 24 k = bI (vm_u (T_im T) j true k) ∧ (vm_u (T_im T) j true k = true → isP σ' (190 + 6 * k) (vm_u (T_iv T) j v k))
    rw [h2]
    by_cases e : k = j
    · subst e
      rw [vm_u_s, vm_u_s]
      exact ⟨by simp [upd], fun _ => h1⟩
    · rw [vm_u_n e, vm_u_n e]
      exact ⟨by simp only [upd, e, if_false]; exact e1, fun z => (e2 z).fr (fun o a b => hf o (by omega) (by omega))⟩
set_option maxHeartbeats 4000000 in
set_option maxRecDepth 100000 in
theorem k_image {G : vm_G} {σ : vm_M} {T : vm_T} (hC : CInv σ T) (hI : SInv T) (k : Int32) : vm_RI G 1 mX7_image [.ref 0, .int k] σ (cPost σ (aImage T k)) := by
  refine vm_int (y := mX7_image) (by decide) (Nat.le_of_ble_eq_true rfl) (ls0 := [some (.ref 0), some (.int k)]) rfl rfl (fun C F K => ?_)
  have F : vm_F G C cX7_image RX7 2 _ := F
  show vm_Ex G C 2 0 [some (.ref 0), some (.int k)] [] _
  obtain ⟨hRows, hTape, hNow, hPast, hImg, hTr, hFlt, hFnd, hDr⟩ := id hC
  have hN := hNow.2
  have hOk : sOk (T_nw T) := hI.1.1
  have hn6 : V_n (T_nw T) ≤ 6 := hOk.1
  refine q_iload_n F 1 dX7_image_0 rfl rfl ?_
  refine q_iconst F (nI 2) dX7_image_1 (by decide) ?_
  refine iX7_76 F dX7_image_2 (c_isWithin k (by decide)) (by decide) rfl rfl (Nat.le_of_ble_eq_true rfl) (fun v_2 σ_2 h_2 => ?_)
  obtain ⟨rfl, rfl⟩ := h_2
  refine b_ne F 11 dX7_image_5 (by decide) (fun c_5 => ?_) (fun c_5 => ?_)
  · obtain ⟨j, hj, rfl⟩ := wi_of c_5
    have hx := xN_nI (show j < 2 ^ 31 by omega)
    refine q_aload_n F 0 dX7_image_11 rfl rfl ?_
    refine gX7_64 F dX7_image_12 sh_0 rfl ?_
    refine q_top (.int (bI (T_hp T))) (congrArg Value.int (hNow.1)) ?_
    refine b_ne F 21 dX7_image_15 (by decide) (fun c_15 => ?_) (fun c_15 => ?_)
    · refine q_aload_n F 0 dX7_image_21 rfl rfl ?_
      refine gX7_35 F dX7_image_22 sh_0 rfl ?_
      refine q_iload_n F 1 dX7_image_25 rfl rfl ?_
      refine q_aald (r := 190 + 6 * j) F dX7_image_26 sh_23 (by decide) hj (by decide) (by rcases (show j = 0 ∨ j = 1 by omega) with rfl | rfl <;> rfl) ?_
      refine q_aload_n F 0 dX7_image_27 rfl rfl ?_
      refine gX7_25 F dX7_image_28 sh_0 rfl ?_
      refine iX7_142 F dX7_image_31 (c_become (pathI j hj) path5 (by omega) hN) (by decide) (pathI j hj).1 rfl rfl (Nat.le_of_ble_eq_true rfl) (fun σ_31 h_31 => ?_)
      subst h_31
      refine q_aload_n F 0 dX7_image_34 rfl rfl ?_
      refine gX7_39 F dX7_image_35 sh_0 rfl ?_
      refine q_iload_n F 1 dX7_image_38 rfl rfl ?_
      refine q_iconst F (nI 1) dX7_image_39 (by decide) ?_
      refine q_zast F dX7_image_40 sh_24 hj (by decide) (show vp_nar .boolean (nI 1) = bI true by decide) ?_
      refine q_iconst F (nI 1) dX7_image_41 (by decide) ?_
      refine K _ _ _ _ ?_ dX7_image_42 rfl
      have e : aImage T (nI j) = (nI 1, sT_img T (vm_u (T_im T) j true) (vm_u (T_iv T) j (T_nw T))) := by
        simp [aImage, c_5, c_15, hx]
      rw [e]
      exact ⟨rfl, hC.img hj ((isP_P _ _ _).fr (fun o a b => vm_upd_n _ _ _ (by omega))) (by rw [vm_upd_a, vm_P_out (by omega)]) (fun o a b => by rw [vm_upd_n _ _ _ a, vm_P_out (by omega)]), fun o ho => by rw [vm_upd_n _ _ _ (by omega), vm_P_out (by omega)]⟩
    · refine q_ldc F dX7_image_18 wX7_152 ?_
      refine K _ _ _ _ ?_ dX7_image_20 rfl
      have e : aImage T (nI j) = (sSTATE, T) := by
        simp [aImage, c_5, c_15]
      rw [e]
      exact ⟨rfl, hC, fun _ _ => rfl⟩
  · refine q_ldc F dX7_image_8 wX7_80 ?_
    refine K _ _ _ _ ?_ dX7_image_10 rfl
    have e : aImage T k = (sBAD, T) := by
      simp [aImage, c_5]
    rw [e]
    exact ⟨rfl, hC, fun _ _ => rfl⟩
set_option maxHeartbeats 4000000 in
set_option maxRecDepth 100000 in
theorem k_restore {G : vm_G} {σ : vm_M} {T : vm_T} (hC : CInv σ T) (hI : SInv T) (k : Int32) : vm_RI G 1 mX7_restore [.ref 0, .int k] σ (cPost σ (aRestore T k)) := by
  refine vm_int (y := mX7_restore) (by decide) (Nat.le_of_ble_eq_true rfl) (ls0 := [some (.ref 0), some (.int k)]) rfl rfl (fun C F K => ?_)
  have F : vm_F G C cX7_restore RX7 2 _ := F
  show vm_Ex G C 2 0 [some (.ref 0), some (.int k)] [] _
  obtain ⟨hRows, hTape, hNow, hPast, hImg, hTr, hFlt, hFnd, hDr⟩ := id hC
  have hN := hNow.2
  have hOk : sOk (T_nw T) := hI.1.1
  have hn6 : V_n (T_nw T) ≤ 6 := hOk.1
  refine q_iload_n F 1 dX7_restore_0 rfl rfl ?_
  refine q_iconst F (nI 2) dX7_restore_1 (by decide) ?_
  refine iX7_76 F dX7_restore_2 (c_isWithin k (by decide)) (by decide) rfl rfl (Nat.le_of_ble_eq_true rfl) (fun v_2 σ_2 h_2 => ?_)
  obtain ⟨rfl, rfl⟩ := h_2
  refine b_ne F 11 dX7_restore_5 (by decide) (fun c_5 => ?_) (fun c_5 => ?_)
  · obtain ⟨j, hj, rfl⟩ := wi_of c_5
    have hx := xN_nI (show j < 2 ^ 31 by omega)
    refine q_aload_n F 0 dX7_restore_11 rfl rfl ?_
    refine gX7_39 F dX7_restore_12 sh_0 rfl ?_
    refine q_iload_n F 1 dX7_restore_15 rfl rfl ?_
    refine q_zald F dX7_restore_16 sh_24 hj (by decide) ?_
    refine q_top (.int (bI (T_im T j))) (congrArg Value.int ((hImg j hj).1)) ?_
    refine b_ne F 23 dX7_restore_17 (by decide) (fun c_17 => ?_) (fun c_17 => ?_)
    · refine q_aload_n F 0 dX7_restore_23 rfl rfl ?_
      refine gX7_25 F dX7_restore_24 sh_0 rfl ?_
      refine q_aload_n F 0 dX7_restore_27 rfl rfl ?_
      refine gX7_35 F dX7_restore_28 sh_0 rfl ?_
      refine q_iload_n F 1 dX7_restore_31 rfl rfl ?_
      refine q_aald (r := 190 + 6 * j) F dX7_restore_32 sh_23 (by decide) hj (by decide) (by rcases (show j = 0 ∨ j = 1 by omega) with rfl | rfl <;> rfl) ?_
      refine iX7_142 F dX7_restore_33 (c_become path5 (pathI j hj) (by omega) ((hImg j hj).2 c_17)) (by decide) path5.1 rfl rfl (Nat.le_of_ble_eq_true rfl) (fun σ_33 h_33 => ?_)
      subst h_33
      refine q_aload_n F 0 dX7_restore_36 rfl rfl ?_
      refine gX7_46 F dX7_restore_37 sh_0 rfl ?_
      refine iX7_146 F dX7_restore_40 (c_pclear) (by decide) sh_25 rfl rfl (Nat.le_of_ble_eq_true rfl) (fun σ_40 h_40 => ?_)
      subst h_40
      refine q_iconst F (nI 1) dX7_restore_43 (by decide) ?_
      refine K _ _ _ _ ?_ dX7_restore_44 rfl
      have e : aRestore T (nI j) = (nI 1, sT_now T (T_iv T j) 0 (T_pv T)) := by
        simp [aRestore, c_5, c_17, hx]
      rw [e]
      exact ⟨rfl, hC.now ((isP_P _ _ _).fr (fun o a b => by rw [vm_upd_n _ _ _ (by omega), vm_upd_n _ _ _ (by omega)])) ⟨0, by decide, by simp [vm_upd, upd], by simp [vm_upd, upd], by decide, fun i hi => absurd hi (Nat.not_lt_zero _)⟩ (fun o a b => by rw [vm_upd_n _ _ _ (by omega), vm_upd_n _ _ _ (by omega), vm_P_out (by omega)]), fun o ho => by rw [vm_upd_n _ _ _ (by omega), vm_upd_n _ _ _ (by omega), vm_P_out (by omega)]⟩
    · refine q_ldc F dX7_restore_20 wX7_152 ?_
      refine K _ _ _ _ ?_ dX7_restore_22 rfl
      have e : aRestore T (nI j) = (sSTATE, T) := by
        simp [aRestore, c_5, c_17, hx]
      rw [e]
      exact ⟨rfl, hC, fun _ _ => rfl⟩
  · refine q_ldc F dX7_restore_8 wX7_80 ?_
    refine K _ _ _ _ ?_ dX7_restore_10 rfl
    have e : aRestore T k = (sBAD, T) := by
      simp [aRestore, c_5]
    rw [e]
    exact ⟨rfl, hC, fun _ _ => rfl⟩
set_option maxHeartbeats 4000000 in
set_option maxRecDepth 100000 in
theorem c_isOf {G : vm_G} {σ : vm_M} {k w : Nat} (hk : k < 6) (hw : w < 6) : vm_RI G 0 mX7_isOf [.int (nI k), .int (nI w)] σ (fun r σ' => r = bI (sIs k w) ∧ σ' = σ) := by
  refine vm_int (y := mX7_isOf) (by decide) (Nat.le_of_ble_eq_true rfl) (ls0 := [some (.int (nI k)), some (.int (nI w)), none, none]) rfl rfl (fun C F K => ?_)
  have F : vm_F G C cX7_isOf RX7 4 _ := F
  show vm_Ex G C 4 0 [some (.int (nI k)), some (.int (nI w)), none, none] [] _
  have L : ∀ m i, (∀ q, q < i → ¬ sUp k q = w) → i + m = 6 → vm_Ex G C 4 4 [some (.int (nI k)), some (.int (nI w)), some (.int (nI (sUp k i))), some (.int (nI i))] [] σ := by
    intro m
    induction m with
    | zero =>
      intro i hh hi
      refine q_iload_n F 3 dX7_isOf_4 rfl rfl ?_
      refine q_bipush F (nI 6) dX7_isOf_5 (by decide) ?_
      refine n_ge F 27 dX7_isOf_7 (by decide) (by omega) (by omega) (fun c_7 => ?_) (fun c_7 => ?_)
      · refine q_iload_n F 2 dX7_isOf_27 rfl rfl ?_
        refine q_iload_n F 1 dX7_isOf_28 rfl rfl ?_
        refine n_ne F 36 dX7_isOf_29 (by decide) (Nat.lt_of_lt_of_le (sUp_lt hk i) (by decide)) (by omega) (fun c_29 => ?_) (fun c_29 => ?_)
        · refine q_iconst F (nI 0) dX7_isOf_36 (by decide) ?_
          refine K _ _ _ _ ?_ dX7_isOf_37 (by decide)
          rw [sIs_f (fun q hq => by
            rcases Nat.lt_or_ge q i with z | z
            · exact hh q z
            · rw [show q = i by omega]; exact c_29)]
          exact ⟨rfl, rfl⟩
        · refine q_iconst F (nI 1) dX7_isOf_32 (by decide) ?_
          refine q_goto F 37 dX7_isOf_33 (by decide) ?_
          refine K _ _ _ _ ?_ dX7_isOf_37 (by decide)
          rw [sIs_t c_29 (by omega)]
          exact ⟨rfl, rfl⟩
      · omega
    | succ m ih =>
      intro i hh hi
      refine q_iload_n F 3 dX7_isOf_4 rfl rfl ?_
      refine q_bipush F (nI 6) dX7_isOf_5 (by decide) ?_
      refine n_ge F 27 dX7_isOf_7 (by decide) (by omega) (by omega) (fun c_7 => ?_) (fun c_7 => ?_)
      · omega
      · refine q_iload_n F 2 dX7_isOf_10 rfl rfl ?_
        refine q_iload_n F 1 dX7_isOf_11 rfl rfl ?_
        refine n_eq F 27 dX7_isOf_12 (by decide) (Nat.lt_of_lt_of_le (sUp_lt hk i) (by decide)) (by omega) (fun c_12 => ?_) (fun c_12 => ?_)
        · refine q_iload_n F 2 dX7_isOf_27 rfl rfl ?_
          refine q_iload_n F 1 dX7_isOf_28 rfl rfl ?_
          refine n_ne F 36 dX7_isOf_29 (by decide) (Nat.lt_of_lt_of_le (sUp_lt hk i) (by decide)) (by omega) (fun c_29 => ?_) (fun c_29 => ?_)
          · exact absurd c_12 c_29
          · refine q_iconst F (nI 1) dX7_isOf_32 (by decide) ?_
            refine q_goto F 37 dX7_isOf_33 (by decide) ?_
            refine K _ _ _ _ ?_ dX7_isOf_37 (by decide)
            rw [sIs_t c_29 (by omega)]
            exact ⟨rfl, rfl⟩
        · refine sX7_247 F dX7_isOf_15 ?_
          refine q_iload_n F 2 dX7_isOf_18 rfl rfl ?_
          refine q_sald (by first | exact Or.inl rfl | exact Or.inr (Or.inl rfl) | exact Or.inr (Or.inr rfl)) F dX7_isOf_19 (sUp_lt hk i) ?_
          refine q_top (.int (nI (sUp k (i + 1)))) (congrArg Value.int ((up_lt _ (sUp_lt hk i)).2)) ?_
          refine q_istore_n2 F dX7_isOf_20 (by decide) rfl ?_
          refine q_iinc3 F _ dX7_isOf_21 (nI_inc _) (by decide) rfl ?_
          refine q_goto F 4 dX7_isOf_24 (by decide) ?_
          exact ih (i + 1) (fun q hq => by
            rcases Nat.lt_or_ge q i with z | z
            · exact hh q z
            · rw [show q = i by omega]; exact c_12) (by omega)
  refine q_iload_n F 0 dX7_isOf_0 rfl rfl ?_
  refine q_istore_n2 F dX7_isOf_1 (by decide) rfl ?_
  refine q_iconst F (nI 0) dX7_isOf_2 (by decide) ?_
  refine q_istore_n3 F dX7_isOf_3 (by decide) rfl ?_
  exact L 6 0 (fun q hq => absurd hq (Nat.not_lt_zero _)) (by omega)
set_option maxHeartbeats 4000000 in
set_option maxRecDepth 100000 in
theorem k_as {G : vm_G} {σ : vm_M} {T : vm_T} (hC : CInv σ T) (hI : SInv T) (p k : Int32) : vm_RI G 1 mX7_as [.ref 0, .int p, .int k] σ (cPost σ (aAs T p k)) := by
  refine vm_int (y := mX7_as) (by decide) (Nat.le_of_ble_eq_true rfl) (ls0 := [some (.ref 0), some (.int p), some (.int k)]) rfl rfl (fun C F K => ?_)
  have F : vm_F G C cX7_as RX7 3 _ := F
  show vm_Ex G C 3 0 [some (.ref 0), some (.int p), some (.int k)] [] _
  obtain ⟨hRows, hTape, hNow, hPast, hImg, hTr, hFlt, hFnd, hDr⟩ := id hC
  have hN := hNow.2
  have hOk : sOk (T_nw T) := hI.1.1
  have hn6 : V_n (T_nw T) ≤ 6 := hOk.1
  refine q_iload_n F 1 dX7_as_0 rfl rfl ?_
  refine q_aload_n F 0 dX7_as_1 rfl rfl ?_
  refine gX7_25 F dX7_as_2 sh_0 rfl ?_
  refine gX7_149 F dX7_as_5 path5.1 rfl ?_
  refine q_top (.int (nI (V_n (T_nw T)))) (congrArg Value.int (hN.n)) ?_
  refine iX7_76 F dX7_as_8 (c_isWithin p (by omega)) (by decide) rfl rfl (Nat.le_of_ble_eq_true rfl) (fun v_8 σ_8 h_8 => ?_)
  obtain ⟨rfl, rfl⟩ := h_8
  refine b_eq F 23 dX7_as_11 (by decide) (fun c_11 => ?_) (fun c_11 => ?_)
  · refine q_ldc F dX7_as_23 wX7_80 ?_
    refine K _ _ _ _ ?_ dX7_as_25 rfl
    have e : aAs T p k = (sBAD, T) := by
      simp [aAs, c_11]
    rw [e]
    exact ⟨rfl, hC, fun _ _ => rfl⟩
  · obtain ⟨j, hj, rfl⟩ := wi_of c_11
    have hx := xN_nI (show j < 2 ^ 31 by omega)
    refine q_iload_n F 2 dX7_as_14 rfl rfl ?_
    refine q_bipush F (nI 6) dX7_as_15 (by decide) ?_
    refine iX7_76 F dX7_as_17 (c_isWithin k (by decide)) (by decide) rfl rfl (Nat.le_of_ble_eq_true rfl) (fun v_17 σ_17 h_17 => ?_)
    obtain ⟨rfl, rfl⟩ := h_17
    refine b_ne F 26 dX7_as_20 (by decide) (fun c_20 => ?_) (fun c_20 => ?_)
    · obtain ⟨q, hq, rfl⟩ := wi_of c_20
      have hxq := xN_nI (show q < 2 ^ 31 by omega)
      refine q_aload_n F 0 dX7_as_26 rfl rfl ?_
      refine gX7_25 F dX7_as_27 sh_0 rfl ?_
      refine gX7_223 F dX7_as_30 path5.1 rfl ?_
      refine q_iload_n F 1 dX7_as_33 rfl rfl ?_
      refine q_iald F dX7_as_34 path5.2.1 (by omega) (by decide) ?_
      refine q_top (.int (nI (V_kd (T_nw T) j))) (congrArg Value.int (hN.kd j)) ?_
      refine q_iload_n F 2 dX7_as_35 rfl rfl ?_
      refine iX7_226 F dX7_as_36 (c_isOf (hOk.2.2.1 j) hq) (by decide) rfl rfl (Nat.le_of_ble_eq_true rfl) (fun v_36 σ_36 h_36 => ?_)
      obtain ⟨rfl, rfl⟩ := h_36
      refine b_eq F 50 dX7_as_39 (by decide) (fun c_39 => ?_) (fun c_39 => ?_)
      · refine q_aload_n F 0 dX7_as_50 rfl rfl ?_
        refine q_iconst F (nI 3) dX7_as_51 (by decide) ?_
        refine iX7_81 F dX7_as_52 (c_found _) (by decide) sh_0 rfl rfl (Nat.le_of_ble_eq_true rfl) (fun v_52 σ_52 h_52 => ?_)
        obtain ⟨rfl, rfl⟩ := h_52
        refine K _ _ _ _ ?_ dX7_as_55 rfl
        have e : aAs T (nI j) (nI q) = sFound T 3 := by
          simp [aAs, c_11, c_20, hx, hxq, c_39]
        rw [e]
        exact ⟨rfl, hC.fnd _, fun o ho => vm_upd_n _ _ _ (by omega)⟩
      · refine q_aload_n F 0 dX7_as_42 rfl rfl ?_
        refine q_iload_n F 1 dX7_as_43 rfl rfl ?_
        refine iX7_89 F dX7_as_44 (c_foundNone _) (by decide) sh_0 rfl rfl (Nat.le_of_ble_eq_true rfl) (fun v_44 σ_44 h_44 => ?_)
        obtain ⟨rfl, rfl⟩ := h_44
        refine q_goto F 55 dX7_as_47 (by decide) ?_
        refine K _ _ _ _ ?_ dX7_as_55 rfl
        have e : aAs T (nI j) (nI q) = (nI j, sT_fnd T (nI 0)) := by
          simp [aAs, c_11, c_20, hx, hxq, c_39]
        rw [e]
        exact ⟨rfl, hC.fnd _, fun o ho => vm_upd_n _ _ _ (by omega)⟩
    · refine q_ldc F dX7_as_23 wX7_80 ?_
      refine K _ _ _ _ ?_ dX7_as_25 rfl
      have e : aAs T (nI j) k = (sBAD, T) := by
        simp [aAs, c_20]
      rw [e]
      exact ⟨rfl, hC, fun _ _ => rfl⟩
set_option maxHeartbeats 4000000 in
set_option maxRecDepth 100000 in
theorem c_trial {G : vm_G} {σ : vm_M} {v : vm_V} (hN : isP σ 5 v) (hOk : sOk v) {s : Nat} (hs : s < 64) : vm_RI G 2 mX7_trialBeginsBy [.ref 0, .int (nI s)] σ (fun a σ' => a = bI (sCan (V_kd v) (V_n v) s) ∧ σ' = (if sCan (V_kd v) (V_n v) s = true then vm_P σ 17 (sOut s v) else σ)) := by
  refine vm_int (y := mX7_trialBeginsBy) (by decide) (Nat.le_of_ble_eq_true rfl) (ls0 := [some (.ref 0), some (.int (nI s))]) rfl rfl (fun C F K => ?_)
  have F : vm_F G C cX7_trialBeginsBy RX7 2 _ := F
  show vm_Ex G C 2 0 [some (.ref 0), some (.int (nI s))] [] _
  refine q_aload_n F 0 dX7_trialBeginsBy_0 rfl rfl ?_
  refine gX7_25 F dX7_trialBeginsBy_1 sh_0 rfl ?_
  refine q_iload_n F 1 dX7_trialBeginsBy_4 rfl rfl ?_
  refine iX7_241 F dX7_trialBeginsBy_5 (d_can hN path5 hOk hs) (by decide) path5.1 rfl rfl (Nat.le_of_ble_eq_true rfl) (fun v_5 σ_5 h_5 => ?_)
  obtain ⟨rfl, rfl⟩ := h_5
  refine b_ne F 13 dX7_trialBeginsBy_8 (by decide) (fun c_8 => ?_) (fun c_8 => ?_)
  · refine q_aload_n F 0 dX7_trialBeginsBy_13 rfl rfl ?_
    refine gX7_32 F dX7_trialBeginsBy_14 sh_0 rfl ?_
    refine q_aload_n F 0 dX7_trialBeginsBy_17 rfl rfl ?_
    refine gX7_25 F dX7_trialBeginsBy_18 sh_0 rfl ?_
    refine iX7_142 F dX7_trialBeginsBy_21 (c_become path17 path5 (by omega) hN) (by decide) path17.1 rfl rfl (Nat.le_of_ble_eq_true rfl) (fun σ_21 h_21 => ?_)
    subst h_21
    refine q_aload_n F 0 dX7_trialBeginsBy_24 rfl rfl ?_
    refine gX7_32 F dX7_trialBeginsBy_25 sh_0 rfl ?_
    refine q_iload_n F 1 dX7_trialBeginsBy_28 rfl rfl ?_
    refine iX7_244 F dX7_trialBeginsBy_29 (c_setOut path17 hOk hs) (by decide) path17.1 rfl rfl (Nat.le_of_ble_eq_true rfl) (fun σ_29 h_29 => ?_)
    subst h_29
    refine q_iconst F (nI 1) dX7_trialBeginsBy_32 (by decide) ?_
    refine K _ _ _ _ ?_ dX7_trialBeginsBy_33 (by decide)
    exact ⟨by rw [c_8]; rfl, by rw [c_8]; rfl⟩
  · refine q_iconst F (nI 0) dX7_trialBeginsBy_11 (by decide) ?_
    refine K _ _ _ _ ?_ dX7_trialBeginsBy_12 (by decide)
    exact ⟨by rw [c_8]; rfl, by rw [c_8]; rfl⟩
set_option maxHeartbeats 4000000 in
set_option maxRecDepth 100000 in
theorem k_errand {G : vm_G} {σ : vm_M} {T : vm_T} (hC : CInv σ T) (hI : SInv T) (e w : Int32) : vm_RI G 1 mX7_errand [.ref 0, .int e, .int w] σ (cPost σ (aErrand T e w)) := by
  refine vm_int (y := mX7_errand) (by decide) (Nat.le_of_ble_eq_true rfl) (ls0 := [some (.ref 0), some (.int e), some (.int w)]) rfl rfl (fun C F K => ?_)
  have F : vm_F G C cX7_errand RX7 3 _ := F
  show vm_Ex G C 3 0 [some (.ref 0), some (.int e), some (.int w)] [] _
  obtain ⟨hRows, hTape, hNow, hPast, hImg, hTr, hFlt, hFnd, hDr⟩ := id hC
  have hN := hNow.2
  have hOk : sOk (T_nw T) := hI.1.1
  have hn6 : V_n (T_nw T) ≤ 6 := hOk.1
  refine q_iload_n F 1 dX7_errand_0 rfl rfl ?_
  refine q_aload_n F 0 dX7_errand_1 rfl rfl ?_
  refine gX7_25 F dX7_errand_2 sh_0 rfl ?_
  refine gX7_149 F dX7_errand_5 path5.1 rfl ?_
  refine q_top (.int (nI (V_n (T_nw T)))) (congrArg Value.int (hN.n)) ?_
  refine iX7_76 F dX7_errand_8 (c_isWithin e (by omega)) (by decide) rfl rfl (Nat.le_of_ble_eq_true rfl) (fun v_8 σ_8 h_8 => ?_)
  obtain ⟨rfl, rfl⟩ := h_8
  refine b_ne F 17 dX7_errand_11 (by decide) (fun c_11 => ?_) (fun c_11 => ?_)
  · obtain ⟨j, hj, rfl⟩ := wi_of c_11
    have hx := xN_nI (show j < 2 ^ 31 by omega)
    have hhl := sHold_lt (e := j) (v := T_nw T) (by omega)
    refine q_iload_n F 2 dX7_errand_17 rfl rfl ?_
    rcases sw4 w with rfl | rfl | rfl | rfl | ⟨hw, h0, h1, h2, h3⟩
    · refine q_tableIn F 48 dX7_errand_18 (off := 30) (by decide) (by decide) (by decide) (by decide) ?_
      refine q_aload_n F 0 dX7_errand_48 rfl rfl ?_
      refine gX7_25 F dX7_errand_49 sh_0 rfl ?_
      refine gX7_173 F dX7_errand_52 path5.1 rfl ?_
      refine q_iload_n F 1 dX7_errand_55 rfl rfl ?_
      refine q_iald F dX7_errand_56 path5.2.2.1 (by omega) (by decide) ?_
      refine q_top (.int (V_gl (T_nw T) j)) (congrArg Value.int (hN.gl j)) ?_
      refine K _ _ _ _ ?_ dX7_errand_57 rfl
      exact ⟨by simp [aErrand, c_11, hx, nI_0], by simp only [aErrand, c_11]; exact hC, fun _ _ => rfl⟩
    · refine q_tableIn F 58 dX7_errand_18 (off := 40) (by decide) (by decide) (by decide) (by decide) ?_
      refine q_aload_n F 0 dX7_errand_58 rfl rfl ?_
      refine gX7_25 F dX7_errand_59 sh_0 rfl ?_
      refine gX7_156 F dX7_errand_62 path5.1 rfl ?_
      refine q_top (.int (V_fin (T_nw T))) (congrArg Value.int (hN.fin)) ?_
      refine q_iload_n F 1 dX7_errand_65 rfl rfl ?_
      refine q_ishr F dX7_errand_66 ?_
      refine q_iconst F (nI 1) dX7_errand_67 (by decide) ?_
      refine q_iand F dX7_errand_68 ?_
      refine K _ _ _ _ ?_ dX7_errand_69 rfl
      exact ⟨by simp [aErrand, c_11, hx, nn1], by simp only [aErrand, c_11]; exact hC, fun _ _ => rfl⟩
    · refine q_tableIn F 70 dX7_errand_18 (off := 52) (by decide) (by decide) (by decide) (by decide) ?_
      refine q_aload_n F 0 dX7_errand_70 rfl rfl ?_
      refine gX7_25 F dX7_errand_71 sh_0 rfl ?_
      refine q_iload_n F 1 dX7_errand_74 rfl rfl ?_
      refine iX7_176 F dX7_errand_75 (d_holder hN path5 hOk hj) (by decide) path5.1 rfl rfl (Nat.le_of_ble_eq_true rfl) (fun v_75 σ_75 h_75 => ?_)
      obtain ⟨rfl, rfl⟩ := h_75
      refine K _ _ _ _ ?_ dX7_errand_78 rfl
      exact ⟨by simp [aErrand, c_11, hx, nn2], by simp only [aErrand, c_11]; exact hC, fun _ _ => rfl⟩
    · refine q_tableIn F 79 dX7_errand_18 (off := 61) (by decide) (by decide) (by decide) (by decide) ?_
      refine q_aload_n F 0 dX7_errand_79 rfl rfl ?_
      refine gX7_25 F dX7_errand_80 sh_0 rfl ?_
      refine gX7_179 F dX7_errand_83 path5.1 rfl ?_
      refine q_aload_n F 0 dX7_errand_86 rfl rfl ?_
      refine gX7_25 F dX7_errand_87 sh_0 rfl ?_
      refine q_iload_n F 1 dX7_errand_90 rfl rfl ?_
      refine iX7_176 F dX7_errand_91 (d_holder hN path5 hOk hj) (by decide) path5.1 rfl rfl (Nat.le_of_ble_eq_true rfl) (fun v_91 σ_91 h_91 => ?_)
      obtain ⟨rfl, rfl⟩ := h_91
      refine q_iald F dX7_errand_94 path5.2.2.2.1 (by omega) (by decide) ?_
      refine q_top (.int (V_sp (T_nw T) (sHold j (T_nw T)))) (congrArg Value.int (hN.sp _)) ?_
      refine K _ _ _ _ ?_ dX7_errand_95 rfl
      exact ⟨by simp [aErrand, c_11, hx, nn3], by simp only [aErrand, c_11]; exact hC, fun _ _ => rfl⟩
    · refine q_tableOut F 96 dX7_errand_18 hw (by decide) ?_
      refine q_ldc F dX7_errand_96 wX7_80 ?_
      refine K _ _ _ _ ?_ dX7_errand_98 rfl
      exact ⟨by simp [aErrand, c_11, hx, h0, h1, h2, h3, sBAD], by simp only [aErrand, c_11]; exact hC, fun _ _ => rfl⟩
  · refine q_ldc F dX7_errand_14 wX7_80 ?_
    refine K _ _ _ _ ?_ dX7_errand_16 rfl
    have e : aErrand T e w = (sBAD, T) := by
      simp [aErrand, c_11]
    rw [e]
    exact ⟨rfl, hC, fun _ _ => rfl⟩
set_option maxHeartbeats 4000000 in
set_option maxRecDepth 100000 in
theorem k_ahead {G : vm_G} {σ : vm_M} {T : vm_T} (hC : CInv σ T) (hI : SInv T) (p n w : Int32) : vm_RI G 4 mX7_ahead [.ref 0, .int p, .int n, .int w] σ (cPost σ (aAhead T p n w)) := by
  refine vm_int (y := mX7_ahead) (by decide) (Nat.le_of_ble_eq_true rfl) (ls0 := [some (.ref 0), some (.int p), some (.int n), some (.int w)]) rfl rfl (fun C F K => ?_)
  have F : vm_F G C cX7_ahead RX7 4 _ := F
  show vm_Ex G C 4 0 [some (.ref 0), some (.int p), some (.int n), some (.int w)] [] _
  obtain ⟨hRows, hTape, hNow, hPast, hImg, hTr, hFlt, hFnd, hDr⟩ := id hC
  have hN := hNow.2
  have hOk : sOk (T_nw T) := hI.1.1
  have hn6 : V_n (T_nw T) ≤ 6 := hOk.1
  refine q_iload_n F 1 dX7_ahead_0 rfl rfl ?_
  refine q_aload_n F 0 dX7_ahead_1 rfl rfl ?_
  refine gX7_25 F dX7_ahead_2 sh_0 rfl ?_
  refine gX7_149 F dX7_ahead_5 path5.1 rfl ?_
  refine q_top (.int (nI (V_n (T_nw T)))) (congrArg Value.int (hN.n)) ?_
  refine iX7_76 F dX7_ahead_8 (c_isWithin p (by omega)) (by decide) rfl rfl (Nat.le_of_ble_eq_true rfl) (fun v_8 σ_8 h_8 => ?_)
  obtain ⟨rfl, rfl⟩ := h_8
  refine b_eq F 21 dX7_ahead_11 (by decide) (fun c_11 => ?_) (fun c_11 => ?_)
  · refine q_ldc F dX7_ahead_21 wX7_80 ?_
    refine K _ _ _ _ ?_ dX7_ahead_23 rfl
    have e : aAhead T p n w = (sBAD, T) := by
      simp [aAhead, c_11]
    rw [e]
    exact ⟨rfl, hC, fun _ _ => rfl⟩
  · obtain ⟨j, hj, rfl⟩ := wi_of c_11
    have hx := xN_nI (show j < 2 ^ 31 by omega)
    refine q_iload_n F 2 dX7_ahead_14 rfl rfl ?_
    refine iX7_182 F dX7_ahead_15 (c_isForetold n) (by decide) rfl rfl (Nat.le_of_ble_eq_true rfl) (fun v_15 σ_15 h_15 => ?_)
    obtain ⟨rfl, rfl⟩ := h_15
    refine b_ne F 24 dX7_ahead_18 (by decide) (fun c_18 => ?_) (fun c_18 => ?_)
    · obtain ⟨m, hm, rfl⟩ := wi_of c_18
      have hxm := xN_nI (show m < 2 ^ 31 by omega)
      refine q_aload_n F 0 dX7_ahead_24 rfl rfl ?_
      refine gX7_32 F dX7_ahead_25 sh_0 rfl ?_
      refine q_aload_n F 0 dX7_ahead_28 rfl rfl ?_
      refine gX7_25 F dX7_ahead_29 sh_0 rfl ?_
      refine iX7_142 F dX7_ahead_32 (c_become path17 path5 (by omega) hN) (by decide) path17.1 rfl rfl (Nat.le_of_ble_eq_true rfl) (fun σ_32 h_32 => ?_)
      subst h_32
      refine q_aload_n F 0 dX7_ahead_35 rfl rfl ?_
      refine gX7_32 F dX7_ahead_36 sh_0 rfl ?_
      refine q_iload_n F 2 dX7_ahead_39 rfl rfl ?_
      refine iX7_186 F dX7_ahead_40 (c_goHalves path17 hOk (by omega)) (by decide) path17.1 rfl rfl (Nat.le_of_ble_eq_true rfl) (fun σ_40 h_40 => ?_)
      subst h_40
      refine q_aload_n F 0 dX7_ahead_43 rfl rfl ?_
      refine gX7_32 F dX7_ahead_44 sh_0 rfl ?_
      refine q_iload_n F 1 dX7_ahead_47 rfl rfl ?_
      refine q_iload_n F 3 dX7_ahead_48 rfl rfl ?_
      refine iX7_169 F dX7_ahead_49 (c_tellPerson path17 (by omega) w) (by decide) path17.1 rfl rfl (Nat.le_of_ble_eq_true rfl) (fun v_49 σ_49 h_49 => ?_)
      obtain ⟨rfl, rfl⟩ := h_49
      refine K _ _ _ _ ?_ dX7_ahead_52 rfl
      have e : aAhead T (nI j) (nI m) w = (sTell (sHs m (T_nw T)) j w, T) := by
        simp [aAhead, c_11, c_18, hx, hxm]
      rw [e]
      exact ⟨rfl, hC.fr (fun o a b c d => vm_P_out (by omega)), fun o ho => vm_P_out (by omega)⟩
    · refine q_ldc F dX7_ahead_21 wX7_80 ?_
      refine K _ _ _ _ ?_ dX7_ahead_23 rfl
      have e : aAhead T (nI j) n w = (sBAD, T) := by
        simp [aAhead, c_18]
      rw [e]
      exact ⟨rfl, hC, fun _ _ => rfl⟩
set_option maxHeartbeats 4000000 in
set_option maxRecDepth 100000 in
theorem k_secret {G : vm_G} {σ : vm_M} {T : vm_T} (hC : CInv σ T) (hI : SInv T) (e n : Int32) : vm_RI G 4 mX7_secret [.ref 0, .int e, .int n] σ (cPost σ (aSecret T e n)) := by
  refine vm_int (y := mX7_secret) (by decide) (Nat.le_of_ble_eq_true rfl) (ls0 := [some (.ref 0), some (.int e), some (.int n)]) rfl rfl (fun C F K => ?_)
  have F : vm_F G C cX7_secret RX7 3 _ := F
  show vm_Ex G C 3 0 [some (.ref 0), some (.int e), some (.int n)] [] _
  obtain ⟨hRows, hTape, hNow, hPast, hImg, hTr, hFlt, hFnd, hDr⟩ := id hC
  have hN := hNow.2
  have hOk : sOk (T_nw T) := hI.1.1
  have hn6 : V_n (T_nw T) ≤ 6 := hOk.1
  refine q_iload_n F 1 dX7_secret_0 rfl rfl ?_
  refine q_aload_n F 0 dX7_secret_1 rfl rfl ?_
  refine gX7_25 F dX7_secret_2 sh_0 rfl ?_
  refine gX7_149 F dX7_secret_5 path5.1 rfl ?_
  refine q_top (.int (nI (V_n (T_nw T)))) (congrArg Value.int (hN.n)) ?_
  refine iX7_76 F dX7_secret_8 (c_isWithin e (by omega)) (by decide) rfl rfl (Nat.le_of_ble_eq_true rfl) (fun v_8 σ_8 h_8 => ?_)
  obtain ⟨rfl, rfl⟩ := h_8
  refine b_eq F 21 dX7_secret_11 (by decide) (fun c_11 => ?_) (fun c_11 => ?_)
  · refine q_ldc F dX7_secret_21 wX7_80 ?_
    refine K _ _ _ _ ?_ dX7_secret_23 rfl
    have e : aSecret T e n = (sBAD, T) := by
      simp [aSecret, c_11]
    rw [e]
    exact ⟨rfl, hC, fun _ _ => rfl⟩
  · obtain ⟨j, hj, rfl⟩ := wi_of c_11
    have hx := xN_nI (show j < 2 ^ 31 by omega)
    refine q_iload_n F 2 dX7_secret_14 rfl rfl ?_
    refine iX7_182 F dX7_secret_15 (c_isForetold n) (by decide) rfl rfl (Nat.le_of_ble_eq_true rfl) (fun v_15 σ_15 h_15 => ?_)
    obtain ⟨rfl, rfl⟩ := h_15
    refine b_ne F 24 dX7_secret_18 (by decide) (fun c_18 => ?_) (fun c_18 => ?_)
    · obtain ⟨m, hm, rfl⟩ := wi_of c_18
      have hxm := xN_nI (show m < 2 ^ 31 by omega)
      refine q_aload_n F 0 dX7_secret_24 rfl rfl ?_
      refine gX7_32 F dX7_secret_25 sh_0 rfl ?_
      refine q_aload_n F 0 dX7_secret_28 rfl rfl ?_
      refine gX7_25 F dX7_secret_29 sh_0 rfl ?_
      refine iX7_142 F dX7_secret_32 (c_become path17 path5 (by omega) hN) (by decide) path17.1 rfl rfl (Nat.le_of_ble_eq_true rfl) (fun σ_32 h_32 => ?_)
      subst h_32
      refine q_aload_n F 0 dX7_secret_35 rfl rfl ?_
      refine gX7_32 F dX7_secret_36 sh_0 rfl ?_
      refine q_iload_n F 1 dX7_secret_39 rfl rfl ?_
      refine q_iload_n F 2 dX7_secret_40 rfl rfl ?_
      refine iX7_194 F dX7_secret_41 (c_holdersAhead path17 hOk hj (by omega)) (by decide) path17.1 rfl rfl (Nat.le_of_ble_eq_true rfl) (fun v_41 σ_41 h_41 => ?_)
      obtain ⟨rfl, rfl⟩ := h_41
      refine K _ _ _ _ ?_ dX7_secret_44 rfl
      have e : aSecret T (nI j) (nI m) = (sS j (T_nw T) m, T) := by
        simp [aSecret, c_11, c_18, hx, hxm]
      rw [e]
      exact ⟨rfl, hC.fr (fun o a b c d => vm_P_out (by omega)), fun o ho => vm_P_out (by omega)⟩
    · refine q_ldc F dX7_secret_21 wX7_80 ?_
      refine K _ _ _ _ ?_ dX7_secret_23 rfl
      have e : aSecret T (nI j) n = (sBAD, T) := by
        simp [aSecret, c_18]
      rw [e]
      exact ⟨rfl, hC, fun _ _ => rfl⟩
