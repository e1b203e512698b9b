set_option maxHeartbeats 4000000 in
set_option maxRecDepth 100000 in
theorem m_bits {G : vm_G} {σ : vm_M} (x : Int32) : vm_RI G 0 mX8_bits [.int x] σ (fun r σ' => r = sPop x ∧ σ' = σ) := by
  refine vm_int (y := mX8_bits) (by decide) (Nat.le_of_ble_eq_true rfl) (ls0 := [some (.int x), none, none]) rfl rfl (fun C F K => ?_)
  have F : vm_F G C cX8_bits RX8 3 _ := F
  show vm_Ex G C 3 0 [some (.int x), none, none] [] _
  have L : ∀ k i, i + k = 8 → vm_Ex G C 3 4 [some (.int x), some (.int (sPp x i)), some (.int (nI i))] [] σ := by
    intro k
    induction k with
    | zero =>
      intro i hi
      refine q_iload_n F 2 dX8_bits_4 rfl rfl ?_
      refine q_bipush F (nI 8) dX8_bits_5 (by decide) ?_
      refine n_ge F 24 dX8_bits_7 (by decide) (by omega) (by omega) (fun c_7 => ?_) (fun c_7 => ?_)
      · refine q_iload_n F 1 dX8_bits_24 rfl rfl ?_
        refine K _ _ _ _ ?_ dX8_bits_25 rfl
        rw [show i = 8 by omega]
        exact ⟨rfl, rfl⟩
      · omega
    | succ k ih =>
      intro i hi
      refine q_iload_n F 2 dX8_bits_4 rfl rfl ?_
      refine q_bipush F (nI 8) dX8_bits_5 (by decide) ?_
      refine n_ge F 24 dX8_bits_7 (by decide) (by omega) (by omega) (fun c_7 => ?_) (fun c_7 => ?_)
      · omega
      · refine q_iload_n F 1 dX8_bits_10 rfl rfl ?_
        refine q_iload_n F 0 dX8_bits_11 rfl rfl ?_
        refine q_iload_n F 2 dX8_bits_12 rfl rfl ?_
        refine q_ishr F dX8_bits_13 ?_
        refine q_iconst F (nI 1) dX8_bits_14 (by decide) ?_
        refine q_iand F dX8_bits_15 ?_
        refine q_iadd F dX8_bits_16 ?_
        refine q_istore_n1 F dX8_bits_17 (by decide) rfl ?_
        refine q_iinc2 F _ dX8_bits_18 (nI_inc _) (by decide) rfl ?_
        refine q_goto F 4 dX8_bits_21 (by decide) ?_
        exact ih (i + 1) (by omega)
  refine q_iconst F (nI 0) dX8_bits_0 (by decide) ?_
  refine q_istore_n1 F dX8_bits_1 (by decide) rfl ?_
  refine q_iconst F (nI 0) dX8_bits_2 (by decide) ?_
  refine q_istore_n2 F dX8_bits_3 (by decide) rfl ?_
  exact L 8 0 (by omega)
set_option maxHeartbeats 4000000 in
set_option maxRecDepth 100000 in
theorem m_hands {G : vm_G} {σ : vm_M} {T : vm_T} (hM : MInv σ T) (hI : SInv T) (x n w : Int32) : vm_RI G 4 mX8_hands [.ref 202, .int x, .int n, .int w] σ (mPost σ (aHands T x n w)) := by
  refine vm_int (y := mX8_hands) (by decide) (Nat.le_of_ble_eq_true rfl) (ls0 := [some (.ref 202), some (.int x), some (.int n), some (.int w), none, none, none, none, none]) rfl rfl (fun C F K => ?_)
  have F : vm_F G C cX8_hands RX8 9 _ := F
  show vm_Ex G C 9 0 [some (.ref 202), some (.int x), some (.int n), some (.int w), none, none, none, none, none] [] _
  obtain ⟨hR, hTp, ⟨hHp, hS⟩, hPs, hIm, hTr, hFl, hFn⟩ := id hM
  have hX := hS.1
  have hM2 : mMov σ 203 (0 + 5) (T_nw T) := hS.2.2
  have hG := hI.1
  have hOk := hG.1
  have hn : V_n (T_nw T) ≤ 6 := hOk.1
  refine q_aload_n F 0 dX8_hands_0 rfl rfl ?_
  refine q_iload_n F 1 dX8_hands_1 rfl rfl ?_
  refine iX8_168 F dX8_hands_2 (m_isPerson hX.aN hn _) (by decide) sh_202 rfl rfl (Nat.le_of_ble_eq_true rfl) (fun v_2 σ_2 h_2 => ?_)
  obtain ⟨rfl, h_2⟩ := h_2
  obtain rfl := h_2.symm
  refine b_eq F 25 dX8_hands_5 (by decide) (fun c_5 => ?_) (fun c_5 => ?_)
  · refine q_ldc F dX8_hands_25 wX8_52 ?_
    refine K _ _ _ _ ?_ dX8_hands_27 rfl
    have e : aHands T x n w = (sBAD, T) := by
      simp [aHands, c_5]
    rw [e]
    exact ⟨rfl, hM, fun _ _ => rfl⟩
  · obtain ⟨p, hpp, rfl⟩ := wi_of c_5
    have hxp := xN_nI (show p < 2 ^ 31 by omega)
    refine q_iload_n F 2 dX8_hands_8 rfl rfl ?_
    refine iX8_183 F dX8_hands_9 (m_isAhead _) (by decide) rfl rfl (Nat.le_of_ble_eq_true rfl) (fun v_9 σ_9 h_9 => ?_)
    obtain ⟨rfl, h_9⟩ := h_9
    obtain rfl := h_9.symm
    refine b_eq F 25 dX8_hands_12 (by decide) (fun c_12 => ?_) (fun c_12 => ?_)
    · refine q_ldc F dX8_hands_25 wX8_52 ?_
      refine K _ _ _ _ ?_ dX8_hands_27 rfl
      have e : aHands T (nI p) n w = (sBAD, T) := by
        simp [aHands, c_5, c_12]
      rw [e]
      exact ⟨rfl, hM, fun _ _ => rfl⟩
    · obtain ⟨m, hpm, rfl⟩ := wi_of c_12
      have hxm := xN_nI (show m < 2 ^ 31 by omega)
      have h64 := pow6 hn
      refine q_iload_n F 3 dX8_hands_15 rfl rfl ?_
      refine q_i2l F dX8_hands_16 ?_
      refine q_lconst F (lN 0) dX8_hands_17 (by decide) ?_
      refine q_lconst F (lN 1) dX8_hands_18 (by decide) ?_
      refine iX8_42 F dX8_hands_19 (m_in _ _ _) (by decide) rfl rfl (Nat.le_of_ble_eq_true rfl) (fun v_19 σ_19 h_19 => ?_)
      obtain ⟨rfl, h_19⟩ := h_19
      obtain rfl := h_19.symm
      refine q_top (.int (bI (wi w 2))) (congrArg Value.int (by rw [in_wi (n := 2) (by decide) (by decide)])) ?_
      refine b_ne F 28 dX8_hands_22 (by decide) (fun c_22 => ?_) (fun c_22 => ?_)
      · obtain ⟨w, hpw, rfl⟩ := wi_of c_22
        have hxw := xN_nI (show w < 2 ^ 31 by omega)
        refine q_iconst F (nI 0) dX8_hands_28 (by decide) ?_
        refine q_istore4 F dX8_hands_29 (by decide) rfl ?_
        refine q_iconst F (nI 0) dX8_hands_31 (by decide) ?_
        refine q_istore5 F dX8_hands_32 (by decide) rfl ?_
        refine q_iconst F (nI 0) dX8_hands_34 (by decide) ?_
        refine q_istore6 F dX8_hands_35 (by decide) rfl ?_
        have L : ∀ k i, i + k = (2 ^ V_n (T_nw T)) → ∀ σ2 : vm_M, mScr σ σ2 → vm_Ex G C 9 37 [some (.ref 202), some (.int (nI p)), some (.int (nI m)), some (.int (nI w)), some (.int ((sHand (T_nw T) p m i).1)), some (.int (nI (sHand (T_nw T) p m i).2)), some (.int (nI i)), none, none] [] σ2 := by
          intro k
          induction k with
          | zero =>
            intro i hi σ2 hf
            have hX2 := hX.sc hf hn
            refine q_iload F 6 dX8_hands_37 rfl ?_
            refine q_iconst F (nI 1) dX8_hands_39 (by decide) ?_
            refine q_aload_n F 0 dX8_hands_40 rfl rfl ?_
            refine gX8_7 F dX8_hands_41 sh_202 rfl ?_
            refine q_iconst F (nI 3) dX8_hands_44 (by decide) ?_
            refine q_iald F dX8_hands_45 sh_203 (by omega) (by decide) ?_
            refine q_top (.int (nI (V_n (T_nw T)))) (congrArg Value.int (hX2.aN)) ?_
            refine q_ishl F dX8_hands_46 ?_
            refine q_top (.int (nI (2 ^ V_n (T_nw T)))) (congrArg Value.int (pow_at _ (by omega))) ?_
            refine n_ge F 88 dX8_hands_47 (by decide) (by omega) (by omega) (fun c_47 => ?_) (fun c_47 => ?_)
            · have e0 : i = (2 ^ V_n (T_nw T)) := by omega
              obtain ⟨A, hA6, hA2⟩ := sHand_nI (v := T_nw T) (e := p) (n := m) hn i
              obtain ⟨B, hBd⟩ : ∃ B, B = (sHand (T_nw T) p m i).2 := ⟨_, rfl⟩
              have hB : 1 ≤ B ∧ B ≤ 64 := by
                obtain ⟨t, ht, e⟩ := ct_pow2 (kd := V_kd (T_nw T)) hn
                rw [hBd, sHand_ct, e0, e]
                exact ⟨Nat.one_le_two_pow, pow6 (by omega)⟩
              rw [← hBd] at hA6
              rw [hA2, ← hBd]
              have LG : ∀ g x y, y ≤ g → x < 1000 → y < 1000 → (y = 0 → 1 ≤ x) → Nat.gcd x y = Nat.gcd A B → ∀ v : Option Value, vm_Ex G C 9 96 [some (.ref 202), some (.int (nI p)), some (.int (nI m)), some (.int (nI w)), some (.int (nI A)), some (.int (nI B)), some (.int (nI x)), some (.int (nI y)), v] [] σ2 := by
                intro g
                induction g with
                | zero =>
                  intro x y hy hx3 hy3 h0 hg v
                  refine q_iload F 7 dX8_hands_96 rfl ?_
                  refine z_eq F 119 dX8_hands_98 (by decide) (by omega) (fun c_98 => ?_) (fun c_98 => ?_)
                  · have hy0 : y = 0 := c_98
                    have hx1 : 1 ≤ x := h0 hy0
                    have hxz : ¬ nI x = 0 := fun z => by
                      rw [nI_z (by omega)] at z
                      omega
                    refine q_iload_n F 3 dX8_hands_119 rfl rfl ?_
                    refine z_ne F 131 dX8_hands_120 (by decide) (by omega) (fun c_120 => ?_) (fun c_120 => ?_)
                    · refine q_iload F 5 dX8_hands_131 rfl ?_
                      refine q_iload F 6 dX8_hands_133 rfl ?_
                      refine q_idiv F dX8_hands_135 hxz ?_
                      refine q_top (.int (nI (B / x))) (congrArg Value.int (pk_div (by omega) (by omega) (by omega))) ?_
                      refine K _ _ _ _ ?_ dX8_hands_136 rfl
                      have e : aHands T (nI p) (nI m) (nI w) = ((if nI w = nI 0 then nI (A / Nat.gcd A B) else nI (B / Nat.gcd A B)), T) := by
                        unfold aHands
                        rw [hxp, hxm, if_neg (by simp [c_5, c_12, c_22]), ← e0, hA2, ← hBd, xN_nI (by omega)]
                      rw [e]
                      refine ⟨?_, hM.sc hI hf, fun o ho => hf.1 o (by omega) (by omega) (by omega)⟩
                      have hx0 : x = Nat.gcd A B := by rw [← hg, hy0]; exact (Nat.gcd_zero_right x).symm
                      rw [if_neg (i_ne c_120 (by omega) (by omega)), hx0]
                    · refine q_iload F 4 dX8_hands_123 rfl ?_
                      refine q_iload F 6 dX8_hands_125 rfl ?_
                      refine q_idiv F dX8_hands_127 hxz ?_
                      refine q_top (.int (nI (A / x))) (congrArg Value.int (pk_div (by omega) (by omega) (by omega))) ?_
                      refine q_goto F 136 dX8_hands_128 (by decide) ?_
                      refine K _ _ _ _ ?_ dX8_hands_136 rfl
                      have e : aHands T (nI p) (nI m) (nI w) = ((if nI w = nI 0 then nI (A / Nat.gcd A B) else nI (B / Nat.gcd A B)), T) := by
                        unfold aHands
                        rw [hxp, hxm, if_neg (by simp [c_5, c_12, c_22]), ← e0, hA2, ← hBd, xN_nI (by omega)]
                      rw [e]
                      refine ⟨?_, hM.sc hI hf, fun o ho => hf.1 o (by omega) (by omega) (by omega)⟩
                      have hx0 : x = Nat.gcd A B := by rw [← hg, hy0]; exact (Nat.gcd_zero_right x).symm
                      rw [if_pos (by rw [c_120]), hx0]
                  · exact absurd (Nat.le_zero.mp hy) c_98
                | succ g ihg =>
                  intro x y hy hx3 hy3 h0 hg v
                  refine q_iload F 7 dX8_hands_96 rfl ?_
                  refine z_eq F 119 dX8_hands_98 (by decide) (by omega) (fun c_98 => ?_) (fun c_98 => ?_)
                  · have hy0 : y = 0 := c_98
                    have hx1 : 1 ≤ x := h0 hy0
                    have hxz : ¬ nI x = 0 := fun z => by
                      rw [nI_z (by omega)] at z
                      omega
                    refine q_iload_n F 3 dX8_hands_119 rfl rfl ?_
                    refine z_ne F 131 dX8_hands_120 (by decide) (by omega) (fun c_120 => ?_) (fun c_120 => ?_)
                    · refine q_iload F 5 dX8_hands_131 rfl ?_
                      refine q_iload F 6 dX8_hands_133 rfl ?_
                      refine q_idiv F dX8_hands_135 hxz ?_
                      refine q_top (.int (nI (B / x))) (congrArg Value.int (pk_div (by omega) (by omega) (by omega))) ?_
                      refine K _ _ _ _ ?_ dX8_hands_136 rfl
                      have e : aHands T (nI p) (nI m) (nI w) = ((if nI w = nI 0 then nI (A / Nat.gcd A B) else nI (B / Nat.gcd A B)), T) := by
                        unfold aHands
                        rw [hxp, hxm, if_neg (by simp [c_5, c_12, c_22]), ← e0, hA2, ← hBd, xN_nI (by omega)]
                      rw [e]
                      refine ⟨?_, hM.sc hI hf, fun o ho => hf.1 o (by omega) (by omega) (by omega)⟩
                      have hx0 : x = Nat.gcd A B := by rw [← hg, hy0]; exact (Nat.gcd_zero_right x).symm
                      rw [if_neg (i_ne c_120 (by omega) (by omega)), hx0]
                    · refine q_iload F 4 dX8_hands_123 rfl ?_
                      refine q_iload F 6 dX8_hands_125 rfl ?_
                      refine q_idiv F dX8_hands_127 hxz ?_
                      refine q_top (.int (nI (A / x))) (congrArg Value.int (pk_div (by omega) (by omega) (by omega))) ?_
                      refine q_goto F 136 dX8_hands_128 (by decide) ?_
                      refine K _ _ _ _ ?_ dX8_hands_136 rfl
                      have e : aHands T (nI p) (nI m) (nI w) = ((if nI w = nI 0 then nI (A / Nat.gcd A B) else nI (B / Nat.gcd A B)), T) := by
                        unfold aHands
                        rw [hxp, hxm, if_neg (by simp [c_5, c_12, c_22]), ← e0, hA2, ← hBd, xN_nI (by omega)]
                      rw [e]
                      refine ⟨?_, hM.sc hI hf, fun o ho => hf.1 o (by omega) (by omega) (by omega)⟩
                      have hx0 : x = Nat.gcd A B := by rw [← hg, hy0]; exact (Nat.gcd_zero_right x).symm
                      rw [if_pos (by rw [c_120]), hx0]
                  · refine q_iload F 6 dX8_hands_101 rfl ?_
                    refine q_iload F 7 dX8_hands_103 rfl ?_
                    refine q_irem F dX8_hands_105 (fun z => by
                    rw [nI_z (by omega)] at z
                    omega) rfl ?_
                    refine q_top (.int (nI (x % y))) (congrArg Value.int (pk_rem (by omega) (by omega) (by omega))) ?_
                    refine q_istore8 F dX8_hands_106 (by decide) rfl ?_
                    refine q_iload F 7 dX8_hands_108 rfl ?_
                    refine q_istore6 F dX8_hands_110 (by decide) rfl ?_
                    refine q_iload F 8 dX8_hands_112 rfl ?_
                    refine q_istore7 F dX8_hands_114 (by decide) rfl ?_
                    refine q_goto F 96 dX8_hands_116 (by decide) ?_
                    have hm := Nat.mod_lt x (show 0 < y by omega)
                    exact ihg y (x % y) (by omega) (by omega) (by omega) (fun z => by omega) (by rw [← hg, Nat.gcd_comm y, ← Nat.gcd_rec, Nat.gcd_comm]) _
              refine q_iload F 4 dX8_hands_88 rfl ?_
              refine q_istore6 F dX8_hands_90 (by decide) rfl ?_
              refine q_iload F 5 dX8_hands_92 rfl ?_
              refine q_istore7 F dX8_hands_94 (by decide) rfl ?_
              exact LG B A B (Nat.le_refl _) (by omega) (by omega) (fun z => by omega) rfl _
            · omega
          | succ k ih =>
            intro i hi σ2 hf
            have hX2 := hX.sc hf hn
            refine q_iload F 6 dX8_hands_37 rfl ?_
            refine q_iconst F (nI 1) dX8_hands_39 (by decide) ?_
            refine q_aload_n F 0 dX8_hands_40 rfl rfl ?_
            refine gX8_7 F dX8_hands_41 sh_202 rfl ?_
            refine q_iconst F (nI 3) dX8_hands_44 (by decide) ?_
            refine q_iald F dX8_hands_45 sh_203 (by omega) (by decide) ?_
            refine q_top (.int (nI (V_n (T_nw T)))) (congrArg Value.int (hX2.aN)) ?_
            refine q_ishl F dX8_hands_46 ?_
            refine q_top (.int (nI (2 ^ V_n (T_nw T)))) (congrArg Value.int (pow_at _ (by omega))) ?_
            refine n_ge F 88 dX8_hands_47 (by decide) (by omega) (by omega) (fun c_47 => ?_) (fun c_47 => ?_)
            · omega
            · have his : i < (2 ^ V_n (T_nw T)) := by omega
              refine q_aload_n F 0 dX8_hands_50 rfl rfl ?_
              refine q_iload F 6 dX8_hands_51 rfl ?_
              refine iX8_195 F dX8_hands_53 (m_isOut hX2 hn hOk.2.2.1 his) (by decide) sh_202 rfl rfl (Nat.le_of_ble_eq_true rfl) (fun v_53 σ_53 h_53 => ?_)
              obtain ⟨rfl, h_53⟩ := h_53
              obtain rfl := h_53.symm
              refine b_eq F 82 dX8_hands_56 (by decide) (fun c_56 => ?_) (fun c_56 => ?_)
              · refine q_iinc6 F _ dX8_hands_82 (nI_inc _) (by decide) rfl ?_
                refine q_goto F 37 dX8_hands_85 (by decide) ?_
                have hh := ih (i + 1) (by omega) _ hf
                rw [sHand, if_neg (by rw [c_56]; decide)] at hh
                exact hh
              · refine q_aload_n F 0 dX8_hands_59 rfl rfl ?_
                refine q_iload F 6 dX8_hands_60 rfl ?_
                refine iX8_198 F dX8_hands_62 (m_setOut hX2 hn hOk.2.2.1 (hM2.sc hf hn) his) (by decide) sh_202 rfl rfl (Nat.le_of_ble_eq_true rfl) (fun σ_62 h_62 => ?_)
                obtain ⟨hMo, hXo, hf3⟩ := h_62
                refine q_iload F 4 dX8_hands_65 rfl ?_
                refine q_aload_n F 0 dX8_hands_67 rfl rfl ?_
                refine q_iload_n F 1 dX8_hands_68 rfl rfl ?_
                refine q_iload_n F 2 dX8_hands_69 rfl rfl ?_
                refine iX8_189 F dX8_hands_70 (m_secretOf (v := sOut i (T_nw T)) hXo (hMo c_56) (sG_out hG i) (Or.inl hpp) (by omega)) (by decide) sh_202 rfl rfl (Nat.le_of_ble_eq_true rfl) (fun v_70 σ_70 h_70 => ?_)
                obtain ⟨hr, hMs, hf4⟩ := h_70
                obtain rfl := hr hpp
                refine iX8_214 F dX8_hands_73 (m_bits _) (by decide) rfl rfl (Nat.le_of_ble_eq_true rfl) (fun v_73 σ_73 h_73 => ?_)
                obtain ⟨rfl, rfl⟩ := h_73
                refine q_iadd F dX8_hands_76 ?_
                refine q_istore4 F dX8_hands_77 (by decide) rfl ?_
                refine q_iinc5 F _ dX8_hands_79 (nI_inc _) (by decide) rfl ?_
                refine q_iinc6 F _ dX8_hands_82 (nI_inc _) (by decide) rfl ?_
                refine q_goto F 37 dX8_hands_85 (by decide) ?_
                have hh := ih (i + 1) (by omega) _ ((hf.tr hf3.sc).tr hf4.sc)
                rw [sHand, if_pos c_56] at hh
                exact hh
        exact L (2 ^ V_n (T_nw T)) 0 (by omega) _ mScr.rf
      · refine q_ldc F dX8_hands_25 wX8_52 ?_
        refine K _ _ _ _ ?_ dX8_hands_27 rfl
        have e : aHands T (nI p) (nI m) w = (sBAD, T) := by
          simp [aHands, c_5, c_12, c_22]
        rw [e]
        exact ⟨rfl, hM, fun _ _ => rfl⟩
theorem sAll_iff {f : Nat → Bool} {n : Nat} : sAll f n = true ↔ ∀ p, p < n → f p = true := by
  unfold sAll
  rw [decide_eq_true_iff]
  constructor
  · intro h p hp
    have := sF_before (f := fun p => !(f p)) (m := n) (p := p) (by omega)
    simpa using this
  · intro h
    exact sF_none (fun p hp => by simp [h p hp])
theorem sAll_no {f : Nat → Bool} {n p : Nat} (hp : p < n) (h : f p = false) : sAll f n = false := by
  cases e : sAll f n
  · rfl
  · exact absurd (sAll_iff.mp e p hp) (by simp [h])
theorem sAll_s (f : Nat → Bool) (n : Nat) : sAll f (n + 1) = (sAll f n && f n) := by
  cases h : f n
  · rw [sAll_no (p := n) (by omega) h]; simp
  · cases h2 : sAll f n
    · cases h3 : sAll f (n + 1)
      · rfl
      · have := sAll_iff.mp h3
        rw [sAll_iff.mpr (fun p hp => this p (by omega))] at h2
        exact absurd h2 (by decide)
    · have := sAll_iff.mp h2
      rw [sAll_iff.mpr (fun p hp => ?_)]
      · rfl
      · by_cases e : p = n
        · rw [e]; exact h
        · exact this p (by omega)
theorem sAll_0 (f : Nat → Bool) : sAll f 0 = true := rfl
set_option maxHeartbeats 4000000 in
set_option maxRecDepth 100000 in
theorem m_isAsTold {G : vm_G} {σ : vm_M} {v : vm_V} {r : Nat} {ri : Nat → Int32} (hX : mFix σ 0 v) (hMt : mMov σ 203 (93 + 5) v) (hn : V_n v ≤ 6) (hr : r < 8) (hri : ∀ p, p < V_n v → σ 208 (40 * r + p) = ri p) : vm_RI G 0 mX8_isAsTold [.ref 202, .int (nI r)] σ (fun x σ' => x = bI (sAll (fun p => decide (nI (V_er v p) = ri p)) (V_n v)) ∧ σ' = σ) := by
  refine vm_int (y := mX8_isAsTold) (by decide) (Nat.le_of_ble_eq_true rfl) (ls0 := [some (.ref 202), some (.int (nI r)), none, none]) rfl rfl (fun C F K => ?_)
  have F : vm_F G C cX8_isAsTold RX8 4 _ := F
  show vm_Ex G C 4 0 [some (.ref 202), some (.int (nI r)), none, none] [] _
  have L : ∀ k i, i + k = V_n v → vm_Ex G C 4 4 [some (.ref 202), some (.int (nI r)), some (.int (bI (sAll (fun p => decide (nI (V_er v p) = ri p)) i))), some (.int (nI i))] [] σ := by
    intro k
    induction k with
    | zero =>
      intro i hi
      refine q_iload_n F 3 dX8_isAsTold_4 rfl rfl ?_
      refine q_aload_n F 0 dX8_isAsTold_5 rfl rfl ?_
      refine gX8_7 F dX8_isAsTold_6 sh_202 rfl ?_
      refine q_iconst F (nI 3) dX8_isAsTold_9 (by decide) ?_
      refine q_iald F dX8_isAsTold_10 sh_203 (by omega) (by decide) ?_
      refine q_top (.int (nI (V_n v))) (congrArg Value.int (hX.aN)) ?_
      refine n_ge F 53 dX8_isAsTold_11 (by decide) (by omega) (by omega) (fun c_11 => ?_) (fun c_11 => ?_)
      · refine q_iload_n F 2 dX8_isAsTold_53 rfl rfl ?_
        refine K _ _ _ _ ?_ dX8_isAsTold_54 (nI_bool _)
        rw [show i = V_n v by omega]
        exact ⟨rfl, rfl⟩
      · omega
    | succ k ih =>
      intro i hi
      refine q_iload_n F 3 dX8_isAsTold_4 rfl rfl ?_
      refine q_aload_n F 0 dX8_isAsTold_5 rfl rfl ?_
      refine gX8_7 F dX8_isAsTold_6 sh_202 rfl ?_
      refine q_iconst F (nI 3) dX8_isAsTold_9 (by decide) ?_
      refine q_iald F dX8_isAsTold_10 sh_203 (by omega) (by decide) ?_
      refine q_top (.int (nI (V_n v))) (congrArg Value.int (hX.aN)) ?_
      refine n_ge F 53 dX8_isAsTold_11 (by decide) (by omega) (by omega) (fun c_11 => ?_) (fun c_11 => ?_)
      · omega
      · refine q_iload_n F 2 dX8_isAsTold_14 rfl rfl ?_
        refine b_eq F 45 dX8_isAsTold_15 (by decide) (fun c_15 => ?_) (fun c_15 => ?_)
        · refine q_iconst F (nI 0) dX8_isAsTold_45 (by decide) ?_
          refine q_istore_n2 F dX8_isAsTold_46 (by decide) rfl ?_
          refine q_iinc3 F _ dX8_isAsTold_47 (nI_inc _) (by decide) rfl ?_
          refine q_goto F 4 dX8_isAsTold_50 (by decide) ?_
          have hh := ih (i + 1) (by omega)
          rw [sAll_s, c_15] at hh
          exact hh
        · refine q_aload_n F 0 dX8_isAsTold_18 rfl rfl ?_
          refine gX8_7 F dX8_isAsTold_19 sh_202 rfl ?_
          refine q_bipush F (nI 106) dX8_isAsTold_22 (by decide) ?_
          refine q_iload_n F 3 dX8_isAsTold_24 rfl rfl ?_
          refine n_iadd F dX8_isAsTold_25 ?_
          refine q_iald F dX8_isAsTold_26 sh_203 (by omega) (by decide) ?_
          refine q_top (.int (nI (V_er v i))) (congrArg Value.int (hMt.aEr (b := 93) (show i < V_n v by omega))) ?_
          refine q_aload_n F 0 dX8_isAsTold_27 rfl rfl ?_
          refine gX8_26 F dX8_isAsTold_28 sh_202 rfl ?_
          refine q_bipush F (nI 40) dX8_isAsTold_31 (by decide) ?_
          refine q_iload_n F 1 dX8_isAsTold_33 rfl rfl ?_
          refine n_imul F dX8_isAsTold_34 ?_
          refine q_iload_n F 3 dX8_isAsTold_35 rfl rfl ?_
          refine n_iadd F dX8_isAsTold_36 ?_
          refine q_iald F dX8_isAsTold_37 sh_208 (by omega) (by decide) ?_
          refine q_top (.int (ri i)) (congrArg Value.int (hri i (by omega))) ?_
          refine q_icmp_ne F 45 dX8_isAsTold_38 (by decide) (fun c_38 => ?_) (fun c_38 => ?_)
          · refine q_iconst F (nI 0) dX8_isAsTold_45 (by decide) ?_
            refine q_istore_n2 F dX8_isAsTold_46 (by decide) rfl ?_
            refine q_iinc3 F _ dX8_isAsTold_47 (nI_inc _) (by decide) rfl ?_
            refine q_goto F 4 dX8_isAsTold_50 (by decide) ?_
            have hh := ih (i + 1) (by omega)
            rw [sAll_s, c_15, decide_eq_false c_38] at hh
            exact hh
          · refine q_iconst F (nI 1) dX8_isAsTold_41 (by decide) ?_
            refine q_goto F 46 dX8_isAsTold_42 (by decide) ?_
            refine q_istore_n2 F dX8_isAsTold_46 (by decide) rfl ?_
            refine q_iinc3 F _ dX8_isAsTold_47 (nI_inc _) (by decide) rfl ?_
            refine q_goto F 4 dX8_isAsTold_50 (by decide) ?_
            have hh := ih (i + 1) (by omega)
            rw [sAll_s, c_15, decide_eq_true c_38] at hh
            exact hh
  refine q_iconst F (nI 1) dX8_isAsTold_0 (by decide) ?_
  refine q_istore_n2 F dX8_isAsTold_1 (by decide) rfl ?_
  refine q_iconst F (nI 0) dX8_isAsTold_2 (by decide) ?_
  refine q_istore_n3 F dX8_isAsTold_3 (by decide) rfl ?_
  exact L (V_n v) 0 (by omega)
set_option maxHeartbeats 4000000 in
set_option maxRecDepth 100000 in
theorem m_began {G : vm_G} {σ : vm_M} {T : vm_T} (hM : MInv σ T) (hI : SInv T) (x n w : Int32) : vm_RI G 4 mX8_began [.ref 202, .int x, .int n, .int w] σ (mPost σ (aBegan T x n w)) := by
  refine vm_int (y := mX8_began) (by decide) (Nat.le_of_ble_eq_true rfl) (ls0 := [some (.ref 202), some (.int x), some (.int n), some (.int w), none]) rfl rfl (fun C F K => ?_)
  have F : vm_F G C cX8_began RX8 5 _ := F
  show vm_Ex G C 5 0 [some (.ref 202), some (.int x), some (.int n), some (.int w), none] [] _
  obtain ⟨hR, hTp, ⟨hHp, hS⟩, hPs, hIm, hTr, hFl, hFn⟩ := id hM
  have hX := hS.1
  have hM2 : mMov σ 203 (0 + 5) (T_nw T) := hS.2.2
  have hG := hI.1
  have hOk := hG.1
  have hn : V_n (T_nw T) ≤ 6 := hOk.1
  refine q_aload_n F 0 dX8_began_0 rfl rfl ?_
  refine gX8_7 F dX8_began_1 sh_202 rfl ?_
  refine q_iconst F (nI 0) dX8_began_4 (by decide) ?_
  refine q_iald F dX8_began_5 sh_203 (by omega) (by decide) ?_
  refine q_top (.int (bI (T_hp T))) (congrArg Value.int (hHp)) ?_
  refine b_ne F 12 dX8_began_6 (by decide) (fun c_6 => ?_) (fun c_6 => ?_)
  · refine q_iload_n F 1 dX8_began_12 rfl rfl ?_
    refine iX8_46 F dX8_began_13 (m_isRow _) (by decide) rfl rfl (Nat.le_of_ble_eq_true rfl) (fun v_13 σ_13 h_13 => ?_)
    obtain ⟨rfl, h_13⟩ := h_13
    obtain rfl := h_13.symm
    refine b_eq F 36 dX8_began_16 (by decide) (fun c_16 => ?_) (fun c_16 => ?_)
    · refine q_ldc F dX8_began_36 wX8_52 ?_
      refine K _ _ _ _ ?_ dX8_began_38 rfl
      have e : aBegan T x n w = (sBAD, T) := by
        simp [aBegan, c_6, c_16]
      rw [e]
      exact ⟨rfl, hM, fun _ _ => rfl⟩
    · obtain ⟨j, hpj, rfl⟩ := wi_of c_16
      have hxj := xN_nI (show j < 2 ^ 31 by omega)
      refine q_iload_n F 2 dX8_began_19 rfl rfl ?_
      refine iX8_183 F dX8_began_20 (m_isAhead _) (by decide) rfl rfl (Nat.le_of_ble_eq_true rfl) (fun v_20 σ_20 h_20 => ?_)
      obtain ⟨rfl, h_20⟩ := h_20
      obtain rfl := h_20.symm
      refine b_eq F 36 dX8_began_23 (by decide) (fun c_23 => ?_) (fun c_23 => ?_)
      · refine q_ldc F dX8_began_36 wX8_52 ?_
        refine K _ _ _ _ ?_ dX8_began_38 rfl
        have e : aBegan T (nI j) n w = (sBAD, T) := by
          simp [aBegan, c_6, c_16, c_23]
        rw [e]
        exact ⟨rfl, hM, fun _ _ => rfl⟩
      · obtain ⟨m, hpm, rfl⟩ := wi_of c_23
        have hxm := xN_nI (show m < 2 ^ 31 by omega)
        refine q_iload_n F 3 dX8_began_26 rfl rfl ?_
        refine q_i2l F dX8_began_27 ?_
        refine q_lconst F (lN 0) dX8_began_28 (by decide) ?_
        refine q_lconst F (lN 1) dX8_began_29 (by decide) ?_
        refine iX8_42 F dX8_began_30 (m_in _ _ _) (by decide) rfl rfl (Nat.le_of_ble_eq_true rfl) (fun v_30 σ_30 h_30 => ?_)
        obtain ⟨rfl, h_30⟩ := h_30
        obtain rfl := h_30.symm
        refine q_top (.int (bI (wi w 2))) (congrArg Value.int (by rw [in_wi (n := 2) (by decide) (by decide)])) ?_
        refine b_ne F 39 dX8_began_33 (by decide) (fun c_33 => ?_) (fun c_33 => ?_)
        · obtain ⟨w, hpw, rfl⟩ := wi_of c_33
          have hxw := xN_nI (show w < 2 ^ 31 by omega)
          obtain ⟨r1, r2⟩ := hR j hpj
          obtain ⟨hr4, hr5⟩ := hI.2.2.2.2.2.2.1 j hpj
          have h64 := pow6 hn
          refine q_aload_n F 0 dX8_began_39 rfl rfl ?_
          refine gX8_20 F dX8_began_40 sh_202 rfl ?_
          refine q_iload_n F 1 dX8_began_43 rfl rfl ?_
          refine q_iald F dX8_began_44 sh_206 (by omega) (by decide) ?_
          refine q_top (.int ((if T_rl T j = 0 then -1000000 else nI (T_rl T j - 1)))) (congrArg Value.int (r1)) ?_
          refine q_ldc F dX8_began_45 wX8_19 ?_
          refine q_icmp_ne F 56 dX8_began_47 (by decide) (fun c_47 => ?_) (fun c_47 => ?_)
          · have c0 : ¬ T_rl T j = 0 := fun z => c_47 ((ln_none hr4).mpr z)
            have hr6 := hr5 c0
            obtain ⟨r3, hit0⟩ := r2 c0
            refine q_aload_n F 0 dX8_began_56 rfl rfl ?_
            refine gX8_23 F dX8_began_57 sh_202 rfl ?_
            refine q_iload_n F 1 dX8_began_60 rfl rfl ?_
            refine q_iald F dX8_began_61 sh_207 (by omega) (by decide) ?_
            refine q_top (.int (nI (T_rn T j))) (congrArg Value.int (r3)) ?_
            refine q_aload_n F 0 dX8_began_62 rfl rfl ?_
            refine gX8_7 F dX8_began_63 sh_202 rfl ?_
            refine q_iconst F (nI 3) dX8_began_66 (by decide) ?_
            refine q_iald F dX8_began_67 sh_203 (by omega) (by decide) ?_
            refine q_top (.int (nI (V_n (T_nw T)))) (congrArg Value.int (hX.aN)) ?_
            refine n_ge F 77 dX8_began_68 (by decide) (by omega) (by omega) (fun c_68 => ?_) (fun c_68 => ?_)
            · have hit : ∀ p, p < V_n (T_nw T) → σ 208 (40 * j + p) = T_ri T j p := fun p hp => hit0 p (by omega)
              refine q_iconst F (nI 0) dX8_began_77 (by decide) ?_
              refine q_istore4 F dX8_began_78 (by decide) rfl ?_
              have LB : ∀ k i, i + k = (2 ^ V_n (T_nw T)) → ∀ σ2 : vm_M, σ2 202 19 = nI (sFit (fun s => sCan (V_kd (T_nw T)) (V_n (T_nw T)) s && sAll (fun p => decide (nI (V_er (sHs m (sOut s (T_nw T))) p) = T_ri T j p)) (V_n (T_nw T))) i).1 → σ2 202 20 = (sFit (fun s => sCan (V_kd (T_nw T)) (V_n (T_nw T)) s && sAll (fun p => decide (nI (V_er (sHs m (sOut s (T_nw T))) p) = T_ri T j p)) (V_n (T_nw T))) i).2 → mScr σ σ2 → sAll (fun p => wi (T_ri T j p) (V_n (T_nw T))) (V_n (T_nw T)) = true → vm_Ex G C 5 126 [some (.ref 202), some (.int (nI j)), some (.int (nI m)), some (.int (nI w)), some (.int (nI i))] [] σ2 := by
                intro k
                induction k with
                | zero =>
                  intro i hi σ2 g1 g2 hf hall
                  have hX2 := hX.sc hf hn
                  refine q_iload F 4 dX8_began_126 rfl ?_
                  refine q_iconst F (nI 1) dX8_began_128 (by decide) ?_
                  refine q_aload_n F 0 dX8_began_129 rfl rfl ?_
                  refine gX8_7 F dX8_began_130 sh_202 rfl ?_
                  refine q_iconst F (nI 3) dX8_began_133 (by decide) ?_
                  refine q_iald F dX8_began_134 sh_203 (by omega) (by decide) ?_
                  refine q_top (.int (nI (V_n (T_nw T)))) (congrArg Value.int (hX2.aN)) ?_
                  refine q_ishl F dX8_began_135 ?_
                  refine q_top (.int (nI (2 ^ V_n (T_nw T)))) (congrArg Value.int (pow_at _ (by omega))) ?_
                  refine n_ge F 178 dX8_began_136 (by decide) (by omega) (by omega) (fun c_136 => ?_) (fun c_136 => ?_)
                  · refine q_aload_n F 0 dX8_began_178 rfl rfl ?_
                    refine q_iload_n F 3 dX8_began_179 rfl rfl ?_
                    refine z_ne F 190 dX8_began_180 (by decide) (by omega) (fun c_180 => ?_) (fun c_180 => ?_)
                    · refine q_aload_n F 0 dX8_began_190 rfl rfl ?_
                      refine gX8_204 F dX8_began_191 sh_202 rfl ?_
                      refine iX8_57 F dX8_began_194 (m_give _) (by decide) sh_202 rfl rfl (Nat.le_of_ble_eq_true rfl) (fun v_194 σ_194 h_194 => ?_)
                      obtain ⟨rfl, rfl⟩ := h_194
                      refine K _ _ _ _ ?_ dX8_began_197 rfl
                      have e0 : i = (2 ^ V_n (T_nw T)) := by omega
                      have e : aBegan T (nI j) (nI m) (nI w) = (sTold (sFit (fun s => sCan (V_kd (T_nw T)) (V_n (T_nw T)) s && sAll (fun p => decide (nI (V_er (sHs m (sOut s (T_nw T))) p) = T_ri T j p)) (V_n (T_nw T))) i) (nI w), sT_fnd T (nI 0)) := by
                        unfold aBegan
                        rw [hxj, hxm, e0, if_neg (by simp [c_6]), if_neg (by simp [c_16, c_23, c_33]), if_neg c0, if_neg (by omega), if_neg (by simp [hall])]
                      rw [e]
                      exact ⟨by rw [g2, sTold, if_neg (i_ne c_180 (by omega) (by omega))], (hM.sc hI hf).fnd _, fun o ho => by rw [vm_upd_n _ _ _ (by omega)]; exact hf.1 o (by omega) (by omega) (by omega)⟩
                    · refine q_aload_n F 0 dX8_began_183 rfl rfl ?_
                      refine gX8_201 F dX8_began_184 sh_202 rfl ?_
                      refine q_goto F 194 dX8_began_187 (by decide) ?_
                      refine iX8_57 F dX8_began_194 (m_give _) (by decide) sh_202 rfl rfl (Nat.le_of_ble_eq_true rfl) (fun v_194 σ_194 h_194 => ?_)
                      obtain ⟨rfl, rfl⟩ := h_194
                      refine K _ _ _ _ ?_ dX8_began_197 rfl
                      have e0 : i = (2 ^ V_n (T_nw T)) := by omega
                      have e : aBegan T (nI j) (nI m) (nI w) = (sTold (sFit (fun s => sCan (V_kd (T_nw T)) (V_n (T_nw T)) s && sAll (fun p => decide (nI (V_er (sHs m (sOut s (T_nw T))) p) = T_ri T j p)) (V_n (T_nw T))) i) (nI w), sT_fnd T (nI 0)) := by
                        unfold aBegan
                        rw [hxj, hxm, e0, if_neg (by simp [c_6]), if_neg (by simp [c_16, c_23, c_33]), if_neg c0, if_neg (by omega), if_neg (by simp [hall])]
                      rw [e]
                      exact ⟨by rw [g1, sTold, if_pos (by rw [c_180])], (hM.sc hI hf).fnd _, fun o ho => by rw [vm_upd_n _ _ _ (by omega)]; exact hf.1 o (by omega) (by omega) (by omega)⟩
                  · omega
                | succ k ih =>
                  intro i hi σ2 g1 g2 hf hall
                  have hX2 := hX.sc hf hn
                  refine q_iload F 4 dX8_began_126 rfl ?_
                  refine q_iconst F (nI 1) dX8_began_128 (by decide) ?_
                  refine q_aload_n F 0 dX8_began_129 rfl rfl ?_
                  refine gX8_7 F dX8_began_130 sh_202 rfl ?_
                  refine q_iconst F (nI 3) dX8_began_133 (by decide) ?_
                  refine q_iald F dX8_began_134 sh_203 (by omega) (by decide) ?_
                  refine q_top (.int (nI (V_n (T_nw T)))) (congrArg Value.int (hX2.aN)) ?_
                  refine q_ishl F dX8_began_135 ?_
                  refine q_top (.int (nI (2 ^ V_n (T_nw T)))) (congrArg Value.int (pow_at _ (by omega))) ?_
                  refine n_ge F 178 dX8_began_136 (by decide) (by omega) (by omega) (fun c_136 => ?_) (fun c_136 => ?_)
                  · omega
                  · have his : i < (2 ^ V_n (T_nw T)) := by omega
                    refine q_aload_n F 0 dX8_began_139 rfl rfl ?_
                    refine q_iload F 4 dX8_began_140 rfl ?_
                    refine iX8_195 F dX8_began_142 (m_isOut hX2 hn hOk.2.2.1 his) (by decide) sh_202 rfl rfl (Nat.le_of_ble_eq_true rfl) (fun v_142 σ_142 h_142 => ?_)
                    obtain ⟨rfl, h_142⟩ := h_142
                    obtain rfl := h_142.symm
                    refine b_eq F 172 dX8_began_145 (by decide) (fun c_145 => ?_) (fun c_145 => ?_)
                    · refine q_iinc4 F _ dX8_began_172 (nI_inc _) (by decide) rfl ?_
                      refine q_goto F 126 dX8_began_175 (by decide) ?_
                      refine ih (i + 1) (by omega) _ ?_ ?_ hf hall
                      · rw [sFit_f (f := (fun s => sCan (V_kd (T_nw T)) (V_n (T_nw T)) s && sAll (fun p => decide (nI (V_er (sHs m (sOut s (T_nw T))) p) = T_ri T j p)) (V_n (T_nw T)))) (by rw [c_145]; rfl)]; exact g1
                      · rw [sFit_f (f := (fun s => sCan (V_kd (T_nw T)) (V_n (T_nw T)) s && sAll (fun p => decide (nI (V_er (sHs m (sOut s (T_nw T))) p) = T_ri T j p)) (V_n (T_nw T)))) (by rw [c_145]; rfl)]; exact g2
                    · refine q_aload_n F 0 dX8_began_148 rfl rfl ?_
                      refine q_iload F 4 dX8_began_149 rfl ?_
                      refine iX8_198 F dX8_began_151 (m_setOut hX2 hn hOk.2.2.1 (hM2.sc hf hn) his) (by decide) sh_202 rfl rfl (Nat.le_of_ble_eq_true rfl) (fun σ_151 h_151 => ?_)
                      obtain ⟨hMo, hXo, hf3⟩ := h_151
                      refine q_aload_n F 0 dX8_began_154 rfl rfl ?_
                      refine q_iconst F (nI 0) dX8_began_155 (by decide) ?_
                      refine q_iload_n F 2 dX8_began_156 rfl rfl ?_
                      refine iX8_189 F dX8_began_157 (m_secretOf (e := 0) (v := sOut i (T_nw T)) hXo (hMo c_145) (sG_out hG i) (Or.inr rfl) (by omega)) (by decide) sh_202 rfl rfl (Nat.le_of_ble_eq_true rfl) (fun v_157 σ_157 h_157 => ?_)
                      obtain ⟨-, hMs, hf4⟩ := h_157
                      have hg4 : σ_157 202 19 = σ2 202 19 ∧ σ_157 202 20 = σ2 202 20 := by rw [hf4.1 202 (by omega), hf3.1 202 (by omega)]; exact ⟨rfl, rfl⟩
                      refine q_pop F dX8_began_160 rfl ?_
                      refine q_aload_n F 0 dX8_began_161 rfl rfl ?_
                      refine q_aload_n F 0 dX8_began_162 rfl rfl ?_
                      refine q_iload_n F 1 dX8_began_163 rfl rfl ?_
                      refine iX8_217 F dX8_began_164 (m_isAsTold (v := sHs m (sOut i (T_nw T))) (ri := T_ri T j) (mFix.hs (v := sOut i (T_nw T)) (hXo.t3 hf4 hn)) hMs (by rw [sHs_n]; exact hn) hpj (fun p hp => by rw [sHs_n] at hp; rw [hf4.1 208 (by omega), hf3.1 208 (by omega), hf.1 208 (by omega) (by omega) (by omega)]; exact hit p hp)) (by decide) sh_202 rfl rfl (Nat.le_of_ble_eq_true rfl) (fun v_164 σ_164 h_164 => ?_)
                      obtain ⟨rfl, rfl⟩ := h_164
                      rw [sHs_n]
                      refine q_iload F 4 dX8_began_167 rfl ?_
                      refine iX8_210 F dX8_began_169 (m_layFit (w := (sCan (V_kd (T_nw T)) (V_n (T_nw T)) i && sAll (fun p => decide (nI (V_er (sHs m (sOut i (T_nw T))) p) = T_ri T j p)) (V_n (T_nw T)))) (hg4.1.trans g1) (hg4.2.trans g2) (by have := sFit_le (fun s => sCan (V_kd (T_nw T)) (V_n (T_nw T)) s && sAll (fun p => decide (nI (V_er (sHs m (sOut s (T_nw T))) p) = T_ri T j p)) (V_n (T_nw T))) i; omega) (by rw [c_145]; rfl) _) (by decide) sh_202 rfl rfl (Nat.le_of_ble_eq_true rfl) (fun σ_169 h_169 => ?_)
                      obtain ⟨k1, k2, k3⟩ := h_169
                      refine q_iinc4 F _ dX8_began_172 (nI_inc _) (by decide) rfl ?_
                      refine q_goto F 126 dX8_began_175 (by decide) ?_
                      refine ih (i + 1) (by omega) _ ?_ ?_ (((hf.tr hf3.sc).tr hf4.sc).tr k3) hall
                      · rw [k1]; cases hff : (sCan (V_kd (T_nw T)) (V_n (T_nw T)) i && sAll (fun p => decide (nI (V_er (sHs m (sOut i (T_nw T))) p) = T_ri T j p)) (V_n (T_nw T)))
                        · rw [sFit_f (f := (fun s => sCan (V_kd (T_nw T)) (V_n (T_nw T)) s && sAll (fun p => decide (nI (V_er (sHs m (sOut s (T_nw T))) p) = T_ri T j p)) (V_n (T_nw T)))) hff]; rfl
                        · rw [sFit_t (f := (fun s => sCan (V_kd (T_nw T)) (V_n (T_nw T)) s && sAll (fun p => decide (nI (V_er (sHs m (sOut s (T_nw T))) p) = T_ri T j p)) (V_n (T_nw T)))) hff]; rfl
                      · rw [k2]; cases hff : (sCan (V_kd (T_nw T)) (V_n (T_nw T)) i && sAll (fun p => decide (nI (V_er (sHs m (sOut i (T_nw T))) p) = T_ri T j p)) (V_n (T_nw T)))
                        · rw [sFit_f (f := (fun s => sCan (V_kd (T_nw T)) (V_n (T_nw T)) s && sAll (fun p => decide (nI (V_er (sHs m (sOut s (T_nw T))) p) = T_ri T j p)) (V_n (T_nw T)))) hff]; rfl
                        · rw [sFit_t (f := (fun s => sCan (V_kd (T_nw T)) (V_n (T_nw T)) s && sAll (fun p => decide (nI (V_er (sHs m (sOut s (T_nw T))) p) = T_ri T j p)) (V_n (T_nw T)))) hff]; rfl
              have L1 : ∀ k i, i + k = V_n (T_nw T) → sAll (fun p => wi (T_ri T j p) (V_n (T_nw T))) i = true → vm_Ex G C 5 80 [some (.ref 202), some (.int (nI j)), some (.int (nI m)), some (.int (nI w)), some (.int (nI i))] [] σ := by
                intro k
                induction k with
                | zero =>
                  intro i hi ha
                  refine q_iload F 4 dX8_began_80 rfl ?_
                  refine q_aload_n F 0 dX8_began_82 rfl rfl ?_
                  refine gX8_7 F dX8_began_83 sh_202 rfl ?_
                  refine q_iconst F (nI 3) dX8_began_86 (by decide) ?_
                  refine q_iald F dX8_began_87 sh_203 (by omega) (by decide) ?_
                  refine q_top (.int (nI (V_n (T_nw T)))) (congrArg Value.int (hX.aN)) ?_
                  refine n_ge F 119 dX8_began_88 (by decide) (by omega) (by omega) (fun c_88 => ?_) (fun c_88 => ?_)
                  · refine q_aload_n F 0 dX8_began_119 rfl rfl ?_
                    refine iX8_207 F dX8_began_120 (m_layNone) (by decide) sh_202 rfl rfl (Nat.le_of_ble_eq_true rfl) (fun σ_120 h_120 => ?_)
                    obtain ⟨n1, n2, n3⟩ := h_120
                    refine q_iconst F (nI 0) dX8_began_123 (by decide) ?_
                    refine q_istore4 F dX8_began_124 (by decide) rfl ?_
                    have hall : sAll (fun p => wi (T_ri T j p) (V_n (T_nw T))) (V_n (T_nw T)) = true := by
                      have e1 : i = V_n (T_nw T) := by omega
                      rw [e1] at ha
                      exact ha
                    exact LB (2 ^ V_n (T_nw T)) 0 (by omega) _ n1 n2 n3 hall
                  · omega
                | succ k ih =>
                  intro i hi ha
                  refine q_iload F 4 dX8_began_80 rfl ?_
                  refine q_aload_n F 0 dX8_began_82 rfl rfl ?_
                  refine gX8_7 F dX8_began_83 sh_202 rfl ?_
                  refine q_iconst F (nI 3) dX8_began_86 (by decide) ?_
                  refine q_iald F dX8_began_87 sh_203 (by omega) (by decide) ?_
                  refine q_top (.int (nI (V_n (T_nw T)))) (congrArg Value.int (hX.aN)) ?_
                  refine n_ge F 119 dX8_began_88 (by decide) (by omega) (by omega) (fun c_88 => ?_) (fun c_88 => ?_)
                  · omega
                  · refine q_aload_n F 0 dX8_began_91 rfl rfl ?_
                    refine q_aload_n F 0 dX8_began_92 rfl rfl ?_
                    refine gX8_26 F dX8_began_93 sh_202 rfl ?_
                    refine q_bipush F (nI 40) dX8_began_96 (by decide) ?_
                    refine q_iload_n F 1 dX8_began_98 rfl rfl ?_
                    refine n_imul F dX8_began_99 ?_
                    refine q_iload F 4 dX8_began_100 rfl ?_
                    refine n_iadd F dX8_began_102 ?_
                    refine q_iald F dX8_began_103 sh_208 (by omega) (by decide) ?_
                    refine q_top (.int (T_ri T j i)) (congrArg Value.int (hit i (by omega))) ?_
                    refine iX8_168 F dX8_began_104 (m_isPerson hX.aN hn _) (by decide) sh_202 rfl rfl (Nat.le_of_ble_eq_true rfl) (fun v_104 σ_104 h_104 => ?_)
                    obtain ⟨rfl, h_104⟩ := h_104
                    obtain rfl := h_104.symm
                    refine b_ne F 113 dX8_began_107 (by decide) (fun c_107 => ?_) (fun c_107 => ?_)
                    · refine q_iinc4 F _ dX8_began_113 (nI_inc _) (by decide) rfl ?_
                      refine q_goto F 80 dX8_began_116 (by decide) ?_
                      exact ih (i + 1) (by omega) (by rw [sAll_s, ha, c_107]; rfl)
                    · refine q_ldc F dX8_began_110 wX8_52 ?_
                      refine K _ _ _ _ ?_ dX8_began_112 rfl
                      have e : aBegan T (nI j) (nI m) (nI w) = (sBAD, T) := by
                        unfold aBegan
                        rw [hxj, if_neg (by simp [c_6]), if_neg (by simp [c_16, c_23, c_33]), if_neg c0, if_neg (by omega), if_pos (sAll_no (p := i) (by omega) c_107)]
                      rw [e]
                      exact ⟨rfl, hM, fun _ _ => rfl⟩
              exact L1 (V_n (T_nw T)) 0 (by omega) (sAll_0 _)
            · refine q_aload_n F 0 dX8_began_71 rfl rfl ?_
              refine q_iconst F (nI 2) dX8_began_72 (by decide) ?_
              refine iX8_53 F dX8_began_73 (m_find _) (by decide) sh_202 rfl rfl (Nat.le_of_ble_eq_true rfl) (fun v_73 σ_73 h_73 => ?_)
              obtain ⟨rfl, rfl⟩ := h_73
              refine K _ _ _ _ ?_ dX8_began_76 rfl
              have e : aBegan T (nI j) (nI m) (nI w) = sFound T 2 := by
                unfold aBegan
                rw [hxj, if_neg (by simp [c_6]), if_neg (by simp [c_16, c_23, c_33]), if_neg c0, if_pos c_68]
              rw [e]
              exact ⟨rfl, hM.fnd _, fun o ho => vm_upd_n _ _ _ (by omega)⟩
          · have c0 : T_rl T j = 0 := (ln_none hr4).mp c_47
            refine q_aload_n F 0 dX8_began_50 rfl rfl ?_
            refine q_iconst F (nI 1) dX8_began_51 (by decide) ?_
            refine iX8_53 F dX8_began_52 (m_find _) (by decide) sh_202 rfl rfl (Nat.le_of_ble_eq_true rfl) (fun v_52 σ_52 h_52 => ?_)
            obtain ⟨rfl, rfl⟩ := h_52
            refine K _ _ _ _ ?_ dX8_began_55 rfl
            have e : aBegan T (nI j) (nI m) (nI w) = sFound T 1 := by
              unfold aBegan
              rw [hxj, if_neg (by simp [c_6]), if_neg (by simp [c_16, c_23, c_33]), if_pos c0]
            rw [e]
            exact ⟨rfl, hM.fnd _, fun o ho => vm_upd_n _ _ _ (by omega)⟩
        · refine q_ldc F dX8_began_36 wX8_52 ?_
          refine K _ _ _ _ ?_ dX8_began_38 rfl
          have e : aBegan T (nI j) (nI m) w = (sBAD, T) := by
            simp [aBegan, c_6, c_16, c_23, c_33]
          rw [e]
          exact ⟨rfl, hM, fun _ _ => rfl⟩
  · refine q_ldc F dX8_began_9 wX8_159 ?_
    refine K _ _ _ _ ?_ dX8_began_11 rfl
    have e : aBegan T x n w = (sSTATE, T) := by
      simp [aBegan, c_6]
    rw [e]
    exact ⟨rfl, hM, fun _ _ => rfl⟩
