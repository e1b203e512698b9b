theorem mFix.as {σ : vm_M} {b : Nat} {kd : Nat → Nat} {gl sp sp2 : Nat → Int32} {wy wy2 : Nat → Bool} {er er2 : Nat → Nat} {top law n gn gn2 : Nat} {fin fin2 : Int32} (h : mFix σ b (kd, gl, sp, wy, er, top, law, n, gn, fin)) : mFix σ b (kd, gl, sp2, wy2, er2, top, law, n, gn2, fin2) := h
theorem sBq_1 {kd : Nat → Nat} {sp : Nat → Int32} {p : Nat} {s : (Nat → Bool) × (Nat → Nat)} : ∀ q, sBq kd sp 1 p q s = s
  | 0 => rfl
  | q + 1 => by
    rw [sBq, sBq_1 q, sMq, sM, if_pos rfl]
    split <;> rfl
theorem sB_1 {kd : Nat → Nat} {sp : Nat → Int32} {s : (Nat → Bool) × (Nat → Nat)} : ∀ p, sB kd sp 1 p s = s
  | 0 => rfl
  | p + 1 => by rw [sB, sB_1 p, sBq_1]
set_option maxHeartbeats 4000000 in
set_option maxRecDepth 100000 in
theorem m_half0 {G : vm_G} {σ : vm_M} {kd : Nat → Nat} {gl sp : Nat → Int32} {wy : Nat → Bool} {er : Nat → Nat} {top law n gn : Nat} {fin : Int32} {b : Nat} (hX : mFix σ 0 (kd, gl, sp, wy, er, top, law, n, gn, fin)) (hM : mMov σ 203 (b + 5) (kd, gl, sp, wy, er, top, law, n, gn, fin)) (hb : b = 0 ∨ b = 93) (hn : n ≤ 6) (hE : sE n er) (hk : ∀ p, kd p < 6) (hl : law < 3) : vm_RV G 2 mX8_half [.ref 202, .int (nI b)] σ (fun σ' => mMov σ' 203 (b + 5) (sH (kd, gl, sp, wy, er, top, law, n, gn, fin)) ∧ mFr σ σ' b) := by
  refine vm_void (y := mX8_half) (by decide) (Nat.le_of_ble_eq_true rfl) (ls0 := [some (.ref 202), some (.int (nI b)), none, none, none]) rfl rfl (fun C F K => ?_)
  have F : vm_F G C cX8_half RX8 5 _ := F
  show vm_Ex G C 5 0 [some (.ref 202), some (.int (nI b)), none, none, none] [] _
  obtain ⟨spA, wyA, hA⟩ : ∃ x y, sA kd top n (sp, wy) = (x, y) := ⟨_, _, rfl⟩
  have hEB : sE n (sB kd spA law n (wyA, er)).2 := sE_B (s := (wyA, er)) hE n (Nat.le_refl _)
  have LF : ∀ (σ2 : vm_M) (w x y : Option Value), mMov σ2 203 (b + 5) (kd, gl, spA, (sB kd spA law n (wyA, er)).1, (sB kd spA law n (wyA, er)).2, top, law, n, gn, fin) → mFr σ σ2 b → vm_Ex G C 5 162 [some (.ref 202), some (.int (nI b)), w, x, y] [] σ2 := by
    intro σ2 w x y hM2 hf
    have hX2 := hX.fr0 hf hb hn
    refine q_aload_n F 0 dX8_half_162 rfl rfl ?_
    refine q_iload_n F 1 dX8_half_163 rfl rfl ?_
    refine iX8_138 F dX8_half_164 (m_layDone (mFix.as hX2) hM2 hb hn hEB) (by decide) sh_202 rfl rfl (Nat.le_of_ble_eq_true rfl) (fun σ_164 h_164 => ?_)
    obtain ⟨hM3, hf3⟩ := h_164
    refine K _ _ _ ?_ dX8_half_167
    refine ⟨?_, hf.tr hf3⟩
    simp only [sH, hA]
    exact hM3
  have LB : ∀ k i, n ≤ i + k → 1 ≤ i → i ≤ n ∨ (n = 0 ∧ i = 1) → ∀ (σ2 : vm_M) (x y : Option Value), mMov σ2 203 (b + 5) (kd, gl, spA, (sB kd spA law i (wyA, er)).1, (sB kd spA law i (wyA, er)).2, top, law, n, gn, fin) → mFr σ σ2 b → vm_Ex G C 5 34 [some (.ref 202), some (.int (nI b)), some (.int (nI i)), x, y] [] σ2 := by
    intro k
    induction k with
    | zero =>
      intro i h1 h2 h3 σ2 x y hM2 hf
      have hX2 := hX.fr0 hf hb hn
      refine q_iload_n F 2 dX8_half_34 rfl rfl ?_
      refine q_aload_n F 0 dX8_half_35 rfl rfl ?_
      refine gX8_7 F dX8_half_36 sh_202 rfl ?_
      refine q_iconst F (nI 3) dX8_half_39 (by decide) ?_
      refine q_iald F dX8_half_40 sh_203 (by omega) (by decide) ?_
      refine q_top (.int (nI n)) (congrArg Value.int (hX2.aN)) ?_
      refine n_ge F 162 dX8_half_41 (by decide) (by omega) (by omega) (fun c_41 => ?_) (fun c_41 => ?_)
      · exact LF _ _ _ _ (by
          have e : sB kd spA law n (wyA, er) = sB kd spA law i (wyA, er) := by
            rcases h3 with h3 | ⟨rfl, rfl⟩
            · rw [show i = n by omega]
            · rfl
          rw [e]; exact hM2) hf
      · omega
    | succ k ih =>
      intro i h1 h2 h3 σ2 x y hM2 hf
      have hX2 := hX.fr0 hf hb hn
      refine q_iload_n F 2 dX8_half_34 rfl rfl ?_
      refine q_aload_n F 0 dX8_half_35 rfl rfl ?_
      refine gX8_7 F dX8_half_36 sh_202 rfl ?_
      refine q_iconst F (nI 3) dX8_half_39 (by decide) ?_
      refine q_iald F dX8_half_40 sh_203 (by omega) (by decide) ?_
      refine q_top (.int (nI n)) (congrArg Value.int (hX2.aN)) ?_
      refine n_ge F 162 dX8_half_41 (by decide) (by omega) (by omega) (fun c_41 => ?_) (fun c_41 => ?_)
      · exact LF _ _ _ _ (by
          have e : sB kd spA law n (wyA, er) = sB kd spA law i (wyA, er) := by
            rcases h3 with h3 | ⟨rfl, rfl⟩
            · rw [show i = n by omega]
            · rfl
          rw [e]; exact hM2) hf
      · refine q_aload_n F 0 dX8_half_44 rfl rfl ?_
        refine gX8_7 F dX8_half_45 sh_202 rfl ?_
        refine q_iconst F (nI 2) dX8_half_48 (by decide) ?_
        refine q_iald F dX8_half_49 sh_203 (by omega) (by decide) ?_
        refine q_top (.int (nI law)) (congrArg Value.int (hX2.aLaw)) ?_
        refine q_iconst F (nI 1) dX8_half_50 (by decide) ?_
        refine n_eq F 162 dX8_half_51 (by decide) (by omega) (by omega) (fun c_51 => ?_) (fun c_51 => ?_)
        · exact LF _ _ _ _ (by subst c_51; rw [sB_1] at hM2 ⊢; exact hM2) hf
        · have hl1 : law ≠ 1 := c_51
          refine q_iconst F (nI 0) dX8_half_54 (by decide) ?_
          refine q_istore_n3 F dX8_half_55 (by decide) rfl ?_
          have LI : ∀ k2 j, j + k2 = i → ∀ (σ3 : vm_M) (y : Option Value), mMov σ3 203 (b + 5) (kd, gl, spA, (sBq kd spA law i j (sB kd spA law i (wyA, er))).1, (sBq kd spA law i j (sB kd spA law i (wyA, er))).2, top, law, n, gn, fin) → mFr σ σ3 b → vm_Ex G C 5 56 [some (.ref 202), some (.int (nI b)), some (.int (nI i)), some (.int (nI j)), y] [] σ3 := by
            intro k2
            induction k2 with
            | zero =>
              intro j hj σ3 y hM3 hf3
              refine q_iload_n F 3 dX8_half_56 rfl rfl ?_
              refine q_iload_n F 2 dX8_half_57 rfl rfl ?_
              refine n_ge F 156 dX8_half_58 (by decide) (by omega) (by omega) (fun c_58 => ?_) (fun c_58 => ?_)
              · refine q_iinc2 F _ dX8_half_156 (nI_inc _) (by decide) rfl ?_
                refine q_goto F 34 dX8_half_159 (by decide) ?_
                have e : j = i := by omega
                subst e
                exact ih (j + 1) (by omega) (by omega) (by omega) _ _ _ hM3 hf3
              · omega
            | succ k2 ih2 =>
              intro j hj σ3 y hM3 hf3
              refine q_iload_n F 3 dX8_half_56 rfl rfl ?_
              refine q_iload_n F 2 dX8_half_57 rfl rfl ?_
              refine n_ge F 156 dX8_half_58 (by decide) (by omega) (by omega) (fun c_58 => ?_) (fun c_58 => ?_)
              · omega
              · obtain ⟨wQ, eQ, hQ⟩ : ∃ x y, sBq kd spA law i j (sB kd spA law i (wyA, er)) = (x, y) := ⟨_, _, rfl⟩
                have hEQ : sE n eQ := by
                  have := sE_Bq (kd := kd) (sp := spA) (law := law) (p := i) (s := sB kd spA law i (wyA, er)) (sE_B (s := (wyA, er)) hE i (by omega)) (by omega) j (by omega)
                  rw [hQ] at this
                  exact this
                rw [hQ] at hM3
                dsimp only at hM3
                have hX3 := hX.fr0 hf3 hb hn
                refine q_aload_n F 0 dX8_half_61 rfl rfl ?_
                refine gX8_7 F dX8_half_62 sh_202 rfl ?_
                refine q_iload_n F 1 dX8_half_65 rfl rfl ?_
                refine q_bipush F (nI 6) dX8_half_66 (by decide) ?_
                refine n_iadd F dX8_half_68 ?_
                refine q_iald F dX8_half_69 sh_203 (by omega) (by decide) ?_
                refine q_top (.int (nI (wM wQ n))) (congrArg Value.int (hM3.aWs)) ?_
                refine q_iload_n F 2 dX8_half_70 rfl rfl ?_
                refine iX8_145 F dX8_half_71 (m_has (wM_64 hn) (by omega)) (by decide) rfl rfl (Nat.le_of_ble_eq_true rfl) (fun v_71 σ_71 h_71 => ?_)
                obtain ⟨rfl, rfl⟩ := h_71
                refine q_top (.int (bI (wQ i))) (congrArg Value.int (by rw [wM_bit]; simp [show i < n by omega])) ?_
                refine q_aload_n F 0 dX8_half_74 rfl rfl ?_
                refine gX8_7 F dX8_half_75 sh_202 rfl ?_
                refine q_iload_n F 1 dX8_half_78 rfl rfl ?_
                refine q_bipush F (nI 6) dX8_half_79 (by decide) ?_
                refine n_iadd F dX8_half_81 ?_
                refine q_iald F dX8_half_82 sh_203 (by omega) (by decide) ?_
                refine q_top (.int (nI (wM wQ n))) (congrArg Value.int (hM3.aWs)) ?_
                refine q_iload_n F 3 dX8_half_83 rfl rfl ?_
                refine iX8_145 F dX8_half_84 (m_has (wM_64 hn) (by omega)) (by decide) rfl rfl (Nat.le_of_ble_eq_true rfl) (fun v_84 σ_84 h_84 => ?_)
                obtain ⟨rfl, rfl⟩ := h_84
                refine q_top (.int (bI (wQ j))) (congrArg Value.int (by rw [wM_bit]; simp [show j < n by omega])) ?_
                refine bb_eq F 94 dX8_half_87 (by decide) (fun c_87 => ?_) (fun c_87 => ?_)
                · refine q_iconst F (nI 0) dX8_half_94 (by decide) ?_
                  refine q_istore4 F dX8_half_95 (by decide) rfl ?_
                  refine q_iload F 4 dX8_half_97 rfl ?_
                  refine z_eq F 150 dX8_half_99 (by decide) (by omega) (fun c_99 => ?_) (fun c_99 => ?_)
                  · refine q_iinc3 F _ dX8_half_150 (nI_inc _) (by decide) rfl ?_
                    refine q_goto F 56 dX8_half_153 (by decide) ?_
                    exact ih2 (j + 1) (by omega) _ _ (by rw [sBq, hQ, sMq, if_neg (by simp [sDM, c_58, c_87])]; exact hM3) hf3
                  · exact absurd rfl c_99
                · refine q_iconst F (nI 1) dX8_half_90 (by decide) ?_
                  refine q_goto F 95 dX8_half_91 (by decide) ?_
                  refine q_istore4 F dX8_half_95 (by decide) rfl ?_
                  refine q_iload F 4 dX8_half_97 rfl ?_
                  refine z_eq F 150 dX8_half_99 (by decide) (by omega) (fun c_99 => ?_) (fun c_99 => ?_)
                  · exact absurd c_99 (by decide)
                  · refine q_aload_n F 0 dX8_half_102 rfl rfl ?_
                    refine q_iload_n F 2 dX8_half_103 rfl rfl ?_
                    refine iX8_148 F dX8_half_104 (m_isCow hX3 (show i < n by omega) hn (hk i)) (by decide) sh_202 rfl rfl (Nat.le_of_ble_eq_true rfl) (fun v_104 σ_104 h_104 => ?_)
                    obtain ⟨rfl, rfl⟩ := h_104
                    refine b_ne F 150 dX8_half_107 (by decide) (fun c_107 => ?_) (fun c_107 => ?_)
                    · have c_107 : kd i = 5 := of_decide_eq_true c_107
                      refine q_iinc3 F _ dX8_half_150 (nI_inc _) (by decide) rfl ?_
                      refine q_goto F 56 dX8_half_153 (by decide) ?_
                      exact ih2 (j + 1) (by omega) _ _ (by rw [sBq, hQ, sMq, if_neg (by simp [sDM, c_58, c_87, c_107])]; exact hM3) hf3
                    · have c_107 : ¬ kd i = 5 := of_decide_eq_false c_107
                      refine q_aload_n F 0 dX8_half_110 rfl rfl ?_
                      refine q_iload_n F 3 dX8_half_111 rfl rfl ?_
                      refine iX8_148 F dX8_half_112 (m_isCow hX3 (show j < n by omega) hn (hk j)) (by decide) sh_202 rfl rfl (Nat.le_of_ble_eq_true rfl) (fun v_112 σ_112 h_112 => ?_)
                      obtain ⟨rfl, rfl⟩ := h_112
                      refine b_ne F 150 dX8_half_115 (by decide) (fun c_115 => ?_) (fun c_115 => ?_)
                      · have c_115 : kd j = 5 := of_decide_eq_true c_115
                        refine q_iinc3 F _ dX8_half_150 (nI_inc _) (by decide) rfl ?_
                        refine q_goto F 56 dX8_half_153 (by decide) ?_
                        exact ih2 (j + 1) (by omega) _ _ (by rw [sBq, hQ, sMq, if_neg (by simp [sDM, c_58, c_87, c_107, c_115])]; exact hM3) hf3
                      · have c_115 : ¬ kd j = 5 := of_decide_eq_false c_115
                        refine q_aload_n F 0 dX8_half_118 rfl rfl ?_
                        refine gX8_7 F dX8_half_119 sh_202 rfl ?_
                        refine q_iload_n F 1 dX8_half_122 rfl rfl ?_
                        refine q_bipush F (nI 7) dX8_half_123 (by decide) ?_
                        refine n_iadd F dX8_half_125 ?_
                        refine q_iload_n F 2 dX8_half_126 rfl rfl ?_
                        refine n_iadd F dX8_half_127 ?_
                        refine q_iald F dX8_half_128 sh_203 (by omega) (by decide) ?_
                        refine q_top (.int (spA i)) (congrArg Value.int (hM3.aSp (show i < n by omega))) ?_
                        refine q_aload_n F 0 dX8_half_129 rfl rfl ?_
                        refine gX8_7 F dX8_half_130 sh_202 rfl ?_
                        refine q_iload_n F 1 dX8_half_133 rfl rfl ?_
                        refine q_bipush F (nI 7) dX8_half_134 (by decide) ?_
                        refine n_iadd F dX8_half_136 ?_
                        refine q_iload_n F 3 dX8_half_137 rfl rfl ?_
                        refine n_iadd F dX8_half_138 ?_
                        refine q_iald F dX8_half_139 sh_203 (by omega) (by decide) ?_
                        refine q_top (.int (spA j)) (congrArg Value.int (hM3.aSp (show j < n by omega))) ?_
                        refine q_icmp_ne F 150 dX8_half_140 (by decide) (fun c_140 => ?_) (fun c_140 => ?_)
                        · refine q_iinc3 F _ dX8_half_150 (nI_inc _) (by decide) rfl ?_
                          refine q_goto F 56 dX8_half_153 (by decide) ?_
                          exact ih2 (j + 1) (by omega) _ _ (by rw [sBq, hQ, sMq, if_neg (by simp [sDM, c_58, c_87, c_107, c_115, c_140])]; exact hM3) hf3
                        · refine q_aload_n F 0 dX8_half_143 rfl rfl ?_
                          refine q_iload_n F 1 dX8_half_144 rfl rfl ?_
                          refine q_iload_n F 2 dX8_half_145 rfl rfl ?_
                          refine q_iload_n F 3 dX8_half_146 rfl rfl ?_
                          refine iX8_155 F dX8_half_147 (m_meet (mFix.as hX3) hM3 hb hn (show i < n by omega) (show j < n by omega) (by omega) hEQ hl hl1) (by decide) sh_202 rfl rfl (Nat.le_of_ble_eq_true rfl) (fun σ_147 h_147 => ?_)
                          obtain ⟨hM4, hf4⟩ := h_147
                          refine q_iinc3 F _ dX8_half_150 (nI_inc _) (by decide) rfl ?_
                          refine q_goto F 56 dX8_half_153 (by decide) ?_
                          exact ih2 (j + 1) (by omega) _ _ (by rw [sBq, hQ, sMq, if_pos (by simp [sDM, c_58, c_87, c_107, c_115, c_140])]; exact hM4) (hf3.tr hf4)
          exact LI i 0 (by omega) _ _ hM2 hf
  have LA : ∀ k i, i + k = n → ∀ (σ2 : vm_M), mMov σ2 203 (b + 5) (kd, gl, (sA kd top i (sp, wy)).1, (sA kd top i (sp, wy)).2, er, top, law, n, gn, fin) → mFr σ σ2 b → vm_Ex G C 5 2 [some (.ref 202), some (.int (nI b)), some (.int (nI i)), none, none] [] σ2 := by
    intro k
    induction k with
    | zero =>
      intro i hi σ2 hM2 hf
      have hX2 := hX.fr0 hf hb hn
      refine q_iload_n F 2 dX8_half_2 rfl rfl ?_
      refine q_aload_n F 0 dX8_half_3 rfl rfl ?_
      refine gX8_7 F dX8_half_4 sh_202 rfl ?_
      refine q_iconst F (nI 3) dX8_half_7 (by decide) ?_
      refine q_iald F dX8_half_8 sh_203 (by omega) (by decide) ?_
      refine q_top (.int (nI n)) (congrArg Value.int (hX2.aN)) ?_
      refine n_ge F 32 dX8_half_9 (by decide) (by omega) (by omega) (fun c_9 => ?_) (fun c_9 => ?_)
      · refine q_iconst F (nI 1) dX8_half_32 (by decide) ?_
        refine q_istore_n2 F dX8_half_33 (by decide) rfl ?_
        have e : i = n := by omega
        subst e
        rw [hA] at hM2
        exact LB i 1 (by omega) (by omega) (by omega) _ _ _ hM2 hf
      · omega
    | succ k ih =>
      intro i hi σ2 hM2 hf
      have hX2 := hX.fr0 hf hb hn
      refine q_iload_n F 2 dX8_half_2 rfl rfl ?_
      refine q_aload_n F 0 dX8_half_3 rfl rfl ?_
      refine gX8_7 F dX8_half_4 sh_202 rfl ?_
      refine q_iconst F (nI 3) dX8_half_7 (by decide) ?_
      refine q_iald F dX8_half_8 sh_203 (by omega) (by decide) ?_
      refine q_top (.int (nI n)) (congrArg Value.int (hX2.aN)) ?_
      refine n_ge F 32 dX8_half_9 (by decide) (by omega) (by omega) (fun c_9 => ?_) (fun c_9 => ?_)
      · omega
      · refine q_aload_n F 0 dX8_half_12 rfl rfl ?_
        refine q_iload_n F 2 dX8_half_13 rfl rfl ?_
        refine iX8_148 F dX8_half_14 (m_isCow hX2 (show i < n by omega) hn (hk i)) (by decide) sh_202 rfl rfl (Nat.le_of_ble_eq_true rfl) (fun v_14 σ_14 h_14 => ?_)
        obtain ⟨rfl, rfl⟩ := h_14
        refine b_ne F 26 dX8_half_17 (by decide) (fun c_17 => ?_) (fun c_17 => ?_)
        · refine q_iinc2 F _ dX8_half_26 (nI_inc _) (by decide) rfl ?_
          refine q_goto F 2 dX8_half_29 (by decide) ?_
          exact ih (i + 1) (by omega) _ (by rw [sA, if_pos (of_decide_eq_true c_17)]; exact hM2) hf
        · refine q_aload_n F 0 dX8_half_20 rfl rfl ?_
          refine q_iload_n F 1 dX8_half_21 rfl rfl ?_
          refine q_iload_n F 2 dX8_half_22 rfl rfl ?_
          refine iX8_151 F dX8_half_23 (m_comes (mFix.as hX2) hM2 hb hn (show i < n by omega)) (by decide) sh_202 rfl rfl (Nat.le_of_ble_eq_true rfl) (fun σ_23 h_23 => ?_)
          obtain ⟨hM3, hf3⟩ := h_23
          refine q_iinc2 F _ dX8_half_26 (nI_inc _) (by decide) rfl ?_
          refine q_goto F 2 dX8_half_29 (by decide) ?_
          exact ih (i + 1) (by omega) _ (by rw [sA, if_neg (of_decide_eq_false c_17)]; exact hM3) (hf.tr hf3)
  refine q_iconst F (nI 0) dX8_half_0 (by decide) ?_
  refine q_istore_n2 F dX8_half_1 (by decide) rfl ?_
  exact LA n 0 (by omega) _ hM mFr.rf
theorem m_half {G : vm_G} {σ : vm_M} {v : vm_V} {b : Nat} (hX : mFix σ 0 v) (hM : mMov σ 203 (b + 5) v) (hb : b = 0 ∨ b = 93) (h : sOk v) : vm_RV G 2 mX8_half [.ref 202, .int (nI b)] σ (fun σ' => mMov σ' 203 (b + 5) (sH v) ∧ mFr σ σ' b) := by
  obtain ⟨kd, gl, sp, wy, er, top, law, n, gn, fin⟩ := v
  exact m_half0 hX hM hb h.1 h.2.1 h.2.2.1 h.2.2.2
