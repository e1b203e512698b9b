theorem sp_add {i n : Int32} (hi : 0 ≤ i.toInt) (hn : 0 ≤ n.toInt) : (i.toInt64 + n.toInt64).toInt = i.toInt + n.toInt := by
  have h1 := i.toInt_lt
  have h2 := n.toInt_lt
  rw [Int64.toInt_add, Int32.toInt_toInt64, Int32.toInt_toInt64]
  exact Int.bmod_eq_of_le (by omega) (by omega)
theorem sRun_f {i n : Int32} {len : Nat} (h : ¬ (0 ≤ n.toInt ∧ 0 ≤ i.toInt ∧ i.toInt + n.toInt ≤ len)) : nI 0 = bI (sRun i n len) := by
  unfold sRun
  rw [decide_eq_false h]
  decide
theorem sRun_t {i n : Int32} {len : Nat} (h : 0 ≤ n.toInt ∧ 0 ≤ i.toInt ∧ i.toInt + n.toInt ≤ len) : nI 1 = bI (sRun i n len) := by
  unfold sRun
  rw [decide_eq_true h]
  decide
set_option maxHeartbeats 4000000 in
set_option maxRecDepth 100000 in
theorem m_isSpan {G : vm_G} {σ : vm_M} {r len : Nat} (hr : r < 8) (hs : σ 207 r = nI len) (hl : len ≤ 40) (i n : Int32) : vm_RI G 0 mX8_isSpan [.ref 202, .int (nI r), .int i, .int n] σ (fun x σ' => x = bI (sRun i n len) ∧ σ' = σ) := by
  refine vm_int (y := mX8_isSpan) (by decide) (Nat.le_of_ble_eq_true rfl) (ls0 := [some (.ref 202), some (.int (nI r)), some (.int i), some (.int n)]) rfl rfl (fun C F K => ?_)
  have F : vm_F G C cX8_isSpan RX8 4 _ := F
  show vm_Ex G C 4 0 [some (.ref 202), some (.int (nI r)), some (.int i), some (.int n)] [] _
  refine q_iload_n F 2 dX8_isSpan_0 rfl rfl ?_
  refine q_if_lt F 28 dX8_isSpan_1 (by decide) (fun c_1 => ?_) (fun c_1 => ?_)
  · rw [i_lt0] at c_1
    refine q_iconst F (nI 0) dX8_isSpan_28 (by decide) ?_
    refine K _ _ _ _ ?_ dX8_isSpan_29 (by decide)
    exact ⟨sRun_f (by omega), rfl⟩
  · rw [i_lt0] at c_1
    refine q_iload_n F 3 dX8_isSpan_4 rfl rfl ?_
    refine q_if_lt F 28 dX8_isSpan_5 (by decide) (fun c_5 => ?_) (fun c_5 => ?_)
    · rw [i_lt0] at c_5
      refine q_iconst F (nI 0) dX8_isSpan_28 (by decide) ?_
      refine K _ _ _ _ ?_ dX8_isSpan_29 (by decide)
      exact ⟨sRun_f (by omega), rfl⟩
    · rw [i_lt0] at c_5
      refine q_iload_n F 2 dX8_isSpan_8 rfl rfl ?_
      refine q_i2l F dX8_isSpan_9 ?_
      refine q_iload_n F 3 dX8_isSpan_10 rfl rfl ?_
      refine q_i2l F dX8_isSpan_11 ?_
      refine q_ladd F dX8_isSpan_12 ?_
      refine q_aload_n F 0 dX8_isSpan_13 rfl rfl ?_
      refine gX8_23 F dX8_isSpan_14 sh_202 rfl ?_
      refine q_iload_n F 1 dX8_isSpan_17 rfl rfl ?_
      refine q_iald F dX8_isSpan_18 sh_207 (by omega) (by decide) ?_
      refine q_top (.int (nI len)) (congrArg Value.int (hs)) ?_
      refine q_i2l F dX8_isSpan_19 ?_
      refine q_lcmp F dX8_isSpan_20 ?_
      refine q_if_gt F 28 dX8_isSpan_21 (by decide) (fun c_21 => ?_) (fun c_21 => ?_)
      · have c_21 := (l_lt (x := (nI len).toInt64) (y := i.toInt64 + n.toInt64)).mp ((lg_cmp_gt _ _).mp c_21)
        rw [sp_add (by omega) (by omega), Int32.toInt_toInt64, nI_toInt (by omega)] at c_21
        refine q_iconst F (nI 0) dX8_isSpan_28 (by decide) ?_
        refine K _ _ _ _ ?_ dX8_isSpan_29 (by decide)
        exact ⟨sRun_f (by omega), rfl⟩
      · have c_21 : ¬ (nI len).toInt64.toInt < (i.toInt64 + n.toInt64).toInt := fun q => c_21 ((lg_cmp_gt _ _).mpr (l_lt.mpr q))
        rw [sp_add (by omega) (by omega), Int32.toInt_toInt64, nI_toInt (by omega)] at c_21
        refine q_iconst F (nI 1) dX8_isSpan_24 (by decide) ?_
        refine q_goto F 29 dX8_isSpan_25 (by decide) ?_
        refine K _ _ _ _ ?_ dX8_isSpan_29 (by decide)
        exact ⟨sRun_t (by omega), rfl⟩
set_option maxHeartbeats 4000000 in
set_option maxRecDepth 100000 in
theorem m_copy {G : vm_G} {σ : vm_M} {T : vm_T} (hM : MInv σ T) (hI : SInv T) (x y z u w : Int32) : vm_RI G 2 mX8_copy [.ref 202, .int x, .int y, .int z, .int u, .int w] σ (mPost σ (aCopy T x y z u w)) := by
  refine vm_int (y := mX8_copy) (by decide) (Nat.le_of_ble_eq_true rfl) (ls0 := [some (.ref 202), some (.int x), some (.int y), some (.int z), some (.int u), some (.int w), none, none]) rfl rfl (fun C F K => ?_)
  have F : vm_F G C cX8_copy RX8 8 _ := F
  show vm_Ex G C 8 0 [some (.ref 202), some (.int x), some (.int y), some (.int z), some (.int u), some (.int w), none, none] [] _
  obtain ⟨hR, hTp, ⟨hHp, hS⟩, hPs, hIm, hTr, hFl, hFn⟩ := id hM
  have hX := hS.1
  have hM2 : mMov σ 203 (0 + 5) (T_nw T) := hS.2.2
  have hG := hI.1
  have hOk := hG.1
  have hn : V_n (T_nw T) ≤ 6 := hOk.1
  refine q_iload_n F 1 dX8_copy_0 rfl rfl ?_
  refine iX8_46 F dX8_copy_1 (m_isRow _) (by decide) rfl rfl (Nat.le_of_ble_eq_true rfl) (fun v_1 σ_1 h_1 => ?_)
  obtain ⟨rfl, h_1⟩ := h_1
  obtain rfl := h_1.symm
  refine b_eq F 14 dX8_copy_4 (by decide) (fun c_4 => ?_) (fun c_4 => ?_)
  · refine q_ldc F dX8_copy_14 wX8_52 ?_
    refine K _ _ _ _ ?_ dX8_copy_16 rfl
    have e : aCopy T x y z u w = (sBAD, T) := by
      simp [aCopy, c_4]
    rw [e]
    exact ⟨rfl, hM, fun _ _ => rfl⟩
  · obtain ⟨a, hpa, rfl⟩ := wi_of c_4
    have hxa := xN_nI (show a < 2 ^ 31 by omega)
    refine q_iload_n F 3 dX8_copy_7 rfl rfl ?_
    refine iX8_46 F dX8_copy_8 (m_isRow _) (by decide) rfl rfl (Nat.le_of_ble_eq_true rfl) (fun v_8 σ_8 h_8 => ?_)
    obtain ⟨rfl, h_8⟩ := h_8
    obtain rfl := h_8.symm
    refine b_ne F 17 dX8_copy_11 (by decide) (fun c_11 => ?_) (fun c_11 => ?_)
    · obtain ⟨b, hpb, rfl⟩ := wi_of c_11
      have hxb := xN_nI (show b < 2 ^ 31 by omega)
      have hRa := hR a hpa
      have hRb := hR b hpb
      obtain ⟨ha4, ha5⟩ := hI.2.2.2.2.2.2.1 a hpa
      obtain ⟨hb4, hb5⟩ := hI.2.2.2.2.2.2.1 b hpb
      refine q_aload_n F 0 dX8_copy_17 rfl rfl ?_
      refine gX8_20 F dX8_copy_18 sh_202 rfl ?_
      refine q_iload_n F 1 dX8_copy_21 rfl rfl ?_
      refine q_iald F dX8_copy_22 sh_206 (by omega) (by decide) ?_
      refine q_top (.int ((if T_rl T a = 0 then -1000000 else nI (T_rl T a - 1)))) (congrArg Value.int (hRa.1)) ?_
      refine q_ldc F dX8_copy_23 wX8_19 ?_
      refine q_icmp_eq F 39 dX8_copy_25 (by decide) (fun c_25 => ?_) (fun c_25 => ?_)
      · have ca : T_rl T a = 0 := (ln_none ha4).mp c_25
        refine q_aload_n F 0 dX8_copy_39 rfl rfl ?_
        refine q_iconst F (nI 1) dX8_copy_40 (by decide) ?_
        refine iX8_53 F dX8_copy_41 (m_find _) (by decide) sh_202 rfl rfl (Nat.le_of_ble_eq_true rfl) (fun v_41 σ_41 h_41 => ?_)
        obtain ⟨rfl, rfl⟩ := h_41
        refine K _ _ _ _ ?_ dX8_copy_44 rfl
        have e : aCopy T (nI a) y (nI b) u w = sFound T 1 := by
          unfold aCopy
          rw [hxa, hxb, if_neg (by simp [c_4, c_11]), if_pos (Or.inl ca)]
        rw [e]
        exact ⟨rfl, hM.fnd _, fun o ho => vm_upd_n _ _ _ (by omega)⟩
      · have ca : ¬ T_rl T a = 0 := fun z => c_25 ((ln_none ha4).mpr z)
        refine q_aload_n F 0 dX8_copy_28 rfl rfl ?_
        refine gX8_20 F dX8_copy_29 sh_202 rfl ?_
        refine q_iload_n F 3 dX8_copy_32 rfl rfl ?_
        refine q_iald F dX8_copy_33 sh_206 (by omega) (by decide) ?_
        refine q_top (.int ((if T_rl T b = 0 then -1000000 else nI (T_rl T b - 1)))) (congrArg Value.int (hRb.1)) ?_
        refine q_ldc F dX8_copy_34 wX8_19 ?_
        refine q_icmp_ne F 45 dX8_copy_36 (by decide) (fun c_36 => ?_) (fun c_36 => ?_)
        · have cb : ¬ T_rl T b = 0 := fun z => c_36 ((ln_none hb4).mpr z)
          have va := hRa.1
          rw [if_neg ca] at va
          have vb := hRb.1
          rw [if_neg cb] at vb
          have ha6 := ha5 ca
          have hb6 := hb5 cb
          have ha3 : T_rl T a < 4 := ha4
          have hb3 : T_rl T b < 4 := hb4
          refine q_aload_n F 0 dX8_copy_45 rfl rfl ?_
          refine gX8_20 F dX8_copy_46 sh_202 rfl ?_
          refine q_iload_n F 1 dX8_copy_49 rfl rfl ?_
          refine q_iald F dX8_copy_50 sh_206 (by omega) (by decide) ?_
          refine q_top (.int (nI (T_rl T a - 1))) (congrArg Value.int (va)) ?_
          refine q_aload_n F 0 dX8_copy_51 rfl rfl ?_
          refine gX8_20 F dX8_copy_52 sh_202 rfl ?_
          refine q_iload_n F 3 dX8_copy_55 rfl rfl ?_
          refine q_iald F dX8_copy_56 sh_206 (by omega) (by decide) ?_
          refine q_top (.int (nI (T_rl T b - 1))) (congrArg Value.int (vb)) ?_
          refine n_eq F 66 dX8_copy_57 (by decide) (by omega) (by omega) (fun c_57 => ?_) (fun c_57 => ?_)
          · refine q_aload_n F 0 dX8_copy_66 rfl rfl ?_
            refine q_iload_n F 1 dX8_copy_67 rfl rfl ?_
            refine q_iload_n F 2 dX8_copy_68 rfl rfl ?_
            refine q_iload F 5 dX8_copy_69 rfl ?_
            refine iX8_60 F dX8_copy_71 (m_isSpan hpa (hRa.2 ca).1 ha6 _ _) (by decide) sh_202 rfl rfl (Nat.le_of_ble_eq_true rfl) (fun v_71 σ_71 h_71 => ?_)
            obtain ⟨rfl, h_71⟩ := h_71
            obtain rfl := h_71.symm
            refine b_eq F 89 dX8_copy_74 (by decide) (fun c_74 => ?_) (fun c_74 => ?_)
            · refine q_aload_n F 0 dX8_copy_89 rfl rfl ?_
              refine q_iconst F (nI 2) dX8_copy_90 (by decide) ?_
              refine iX8_53 F dX8_copy_91 (m_find _) (by decide) sh_202 rfl rfl (Nat.le_of_ble_eq_true rfl) (fun v_91 σ_91 h_91 => ?_)
              obtain ⟨rfl, rfl⟩ := h_91
              refine K _ _ _ _ ?_ dX8_copy_94 rfl
              have e : aCopy T (nI a) y (nI b) u w = sFound T 2 := by
                unfold aCopy
                rw [hxa, hxb, if_neg (by simp [c_4, c_11]), if_neg (by simp [ca, cb]), if_neg (by omega), if_pos (by simp [c_74])]
              rw [e]
              exact ⟨rfl, hM.fnd _, fun o ho => vm_upd_n _ _ _ (by omega)⟩
            · obtain ⟨i, n, rfl, rfl, hin⟩ := run_of c_74 ha6
              refine q_aload_n F 0 dX8_copy_77 rfl rfl ?_
              refine q_iload_n F 3 dX8_copy_78 rfl rfl ?_
              refine q_iload F 4 dX8_copy_79 rfl ?_
              refine q_iload F 5 dX8_copy_81 rfl ?_
              refine iX8_60 F dX8_copy_83 (m_isSpan hpb (hRb.2 cb).1 hb6 _ _) (by decide) sh_202 rfl rfl (Nat.le_of_ble_eq_true rfl) (fun v_83 σ_83 h_83 => ?_)
              obtain ⟨rfl, h_83⟩ := h_83
              obtain rfl := h_83.symm
              refine b_ne F 95 dX8_copy_86 (by decide) (fun c_86 => ?_) (fun c_86 => ?_)
              · obtain ⟨j, n2, rfl, hn2, hjn⟩ := run_of c_86 hb6
                have hnn : n = n2 := (nI_eq (by omega) (by omega)).mp hn2
                subst hnn
                have hxi := xN_nI (show i < 2 ^ 31 by omega)
                have hxj := xN_nI (show j < 2 ^ 31 by omega)
                have hxn := xN_nI (show n < 2 ^ 31 by omega)
                refine q_iconst F (nI 0) dX8_copy_95 (by decide) ?_
                refine q_istore6 F dX8_copy_96 (by decide) rfl ?_
                have L : ∀ k q, q + k = n → ∀ (σ2 : vm_M) (y : Option Value), (∀ t, (if a = b ∧ i < j then n - q else 0) ≤ t → t < (if a = b ∧ i < j then n else q) → σ2 208 (40 * b + j + t) = σ 208 (40 * a + i + t)) → (∀ z, (z < 40 * b + j + (if a = b ∧ i < j then n - q else 0) ∨ 40 * b + j + (if a = b ∧ i < j then n else q) ≤ z) → σ2 208 z = σ 208 z) → (∀ o, o ≠ 208 → σ2 o = σ o) → vm_Ex G C 8 98 [some (.ref 202), some (.int (nI a)), some (.int (nI i)), some (.int (nI b)), some (.int (nI j)), some (.int (nI n)), some (.int (nI q)), y] [] σ2 := by
                  intro k
                  induction k with
                  | zero =>
                    intro q hq σ2 y g1 g2 g3
                    refine q_iload F 6 dX8_copy_98 rfl ?_
                    refine q_iload F 5 dX8_copy_100 rfl ?_
                    refine n_ge F 165 dX8_copy_102 (by decide) (by omega) (by omega) (fun c_102 => ?_) (fun c_102 => ?_)
                    · refine q_aload_n F 0 dX8_copy_165 rfl rfl ?_
                      refine q_iload F 5 dX8_copy_166 rfl ?_
                      refine iX8_57 F dX8_copy_168 (m_give _) (by decide) sh_202 rfl rfl (Nat.le_of_ble_eq_true rfl) (fun v_168 σ_168 h_168 => ?_)
                      obtain ⟨rfl, rfl⟩ := h_168
                      refine K _ _ _ _ ?_ dX8_copy_171 rfl
                      have eq0 : q = n := by omega
                      subst eq0
                      have e : aCopy T (nI a) (nI i) (nI b) (nI j) (nI q) = (nI q, sT_rows T (T_rl T) (T_rn T) (vm_u (T_ri T) b (va_cpy (T_ri T a) (T_ri T b) i j q)) (nI 0)) := by
                        unfold aCopy
                        rw [hxa, hxb, hxi, hxj, hxn, if_neg (by simp [c_4, c_11]), if_neg (by simp [ca, cb]), if_neg (by omega), if_neg (by simp [c_74, c_86])]
                      rw [e]
                      have g4 : ∀ t, t < q → σ2 208 (40 * b + j + t) = σ 208 (40 * a + i + t) := fun t ht => g1 t (by split <;> omega) (by split <;> omega)
                      have g5 : ∀ z, (z < 40 * b + j ∨ 40 * b + j + q ≤ z) → σ2 208 z = σ 208 z := fun z hz => g2 z (by split <;> omega)
                      refine ⟨rfl, MInv.fnd (T := sT_rows T (T_rl T) (T_rn T) (vm_u (T_ri T) b (va_cpy (T_ri T a) (T_ri T b) i j q)) (T_fnd T)) (hM.rows (fun o x y z => g3 o z) (fun r hr => ?_)) (nI 0), fun o ho => by rw [vm_upd_n _ _ _ (by omega)]; exact g3 o (by omega)⟩
                      obtain ⟨r1, r2⟩ := hR r hr
                      obtain ⟨-, hr5⟩ := hI.2.2.2.2.2.2.1 r hr
                      rw [g3 206 (by omega), g3 207 (by omega)]
                      refine ⟨r1, fun z => ⟨(r2 z).1, fun k hk => ?_⟩⟩
                      have hr6 := hr5 z
                      by_cases er : r = b
                      · rw [er, vm_u_s]
                        show _ = (if j ≤ k ∧ k < j + q then T_ri T a (i + (k - j)) else T_ri T b k)
                        by_cases hk2 : j ≤ k ∧ k < j + q
                        · rw [if_pos hk2]
                          have h9 := g4 (k - j) (by omega)
                          rw [show 40 * b + j + (k - j) = 40 * b + k by omega, Nat.add_assoc] at h9
                          rw [h9]
                          exact (hRa.2 ca).2 (i + (k - j)) (by omega)
                        · rw [if_neg hk2, g5 _ (by omega)]
                          rw [er] at hk
                          exact (hRb.2 cb).2 k hk
                      · rw [vm_u_n er, g5 _ (by omega)]
                        exact (r2 z).2 k hk
                    · omega
                  | succ k ih =>
                    intro q hq σ2 y g1 g2 g3
                    refine q_iload F 6 dX8_copy_98 rfl ?_
                    refine q_iload F 5 dX8_copy_100 rfl ?_
                    refine n_ge F 165 dX8_copy_102 (by decide) (by omega) (by omega) (fun c_102 => ?_) (fun c_102 => ?_)
                    · omega
                    · refine q_iload_n F 1 dX8_copy_105 rfl rfl ?_
                      refine q_iload_n F 3 dX8_copy_106 rfl rfl ?_
                      refine n_ne F 126 dX8_copy_107 (by decide) (by omega) (by omega) (fun c_107 => ?_) (fun c_107 => ?_)
                      · have hd : ¬ (a = b ∧ i < j) := fun z => c_107 z.1
                        refine q_iload F 6 dX8_copy_126 rfl ?_
                        refine q_istore7 F dX8_copy_128 (by decide) rfl ?_
                        refine q_aload_n F 0 dX8_copy_130 rfl rfl ?_
                        refine gX8_26 F dX8_copy_131 sh_202 rfl ?_
                        refine q_bipush F (nI 40) dX8_copy_134 (by decide) ?_
                        refine q_iload_n F 3 dX8_copy_136 rfl rfl ?_
                        refine n_imul F dX8_copy_137 ?_
                        refine q_iload F 4 dX8_copy_138 rfl ?_
                        refine n_iadd F dX8_copy_140 ?_
                        refine q_iload F 7 dX8_copy_141 rfl ?_
                        refine n_iadd F dX8_copy_143 ?_
                        refine q_aload_n F 0 dX8_copy_144 rfl rfl ?_
                        refine gX8_26 F dX8_copy_145 sh_202 rfl ?_
                        refine q_bipush F (nI 40) dX8_copy_148 (by decide) ?_
                        refine q_iload_n F 1 dX8_copy_150 rfl rfl ?_
                        refine n_imul F dX8_copy_151 ?_
                        refine q_iload_n F 2 dX8_copy_152 rfl rfl ?_
                        refine n_iadd F dX8_copy_153 ?_
                        refine q_iload F 7 dX8_copy_154 rfl ?_
                        refine n_iadd F dX8_copy_156 ?_
                        refine q_iald F dX8_copy_157 sh_208 (by omega) (by decide) ?_
                        refine q_iast F dX8_copy_158 sh_208 (by omega) (by decide) ?_
                        refine q_iinc6 F _ dX8_copy_159 (nI_inc _) (by decide) rfl ?_
                        refine q_goto F 98 dX8_copy_162 (by decide) ?_
                        simp only [if_neg hd] at g1 g2 ih
                        refine ih (q + 1) (by omega) _ _ (fun t h1 h2 => ?_) (fun z hz => ?_) (fun o ho => by rw [vm_upd_n _ _ _ ho]; exact g3 o ho)
                        · by_cases e : t = q
                          · rw [e]
                            simp only [vm_upd, upd, if_true]
                            exact g2 _ (by omega)
                          · rw [vm_upd_k _ _ _ (by omega)]
                            exact g1 t (by omega) (by omega)
                        · rw [vm_upd_k _ _ _ (by omega)]
                          exact g2 z (by omega)
                      · refine q_iload_n F 2 dX8_copy_110 rfl rfl ?_
                        refine q_iload F 4 dX8_copy_111 rfl ?_
                        refine n_ge F 126 dX8_copy_113 (by decide) (by omega) (by omega) (fun c_113 => ?_) (fun c_113 => ?_)
                        · have hd : ¬ (a = b ∧ i < j) := fun z => by omega
                          refine q_iload F 6 dX8_copy_126 rfl ?_
                          refine q_istore7 F dX8_copy_128 (by decide) rfl ?_
                          refine q_aload_n F 0 dX8_copy_130 rfl rfl ?_
                          refine gX8_26 F dX8_copy_131 sh_202 rfl ?_
                          refine q_bipush F (nI 40) dX8_copy_134 (by decide) ?_
                          refine q_iload_n F 3 dX8_copy_136 rfl rfl ?_
                          refine n_imul F dX8_copy_137 ?_
                          refine q_iload F 4 dX8_copy_138 rfl ?_
                          refine n_iadd F dX8_copy_140 ?_
                          refine q_iload F 7 dX8_copy_141 rfl ?_
                          refine n_iadd F dX8_copy_143 ?_
                          refine q_aload_n F 0 dX8_copy_144 rfl rfl ?_
                          refine gX8_26 F dX8_copy_145 sh_202 rfl ?_
                          refine q_bipush F (nI 40) dX8_copy_148 (by decide) ?_
                          refine q_iload_n F 1 dX8_copy_150 rfl rfl ?_
                          refine n_imul F dX8_copy_151 ?_
                          refine q_iload_n F 2 dX8_copy_152 rfl rfl ?_
                          refine n_iadd F dX8_copy_153 ?_
                          refine q_iload F 7 dX8_copy_154 rfl ?_
                          refine n_iadd F dX8_copy_156 ?_
                          refine q_iald F dX8_copy_157 sh_208 (by omega) (by decide) ?_
                          refine q_iast F dX8_copy_158 sh_208 (by omega) (by decide) ?_
                          refine q_iinc6 F _ dX8_copy_159 (nI_inc _) (by decide) rfl ?_
                          refine q_goto F 98 dX8_copy_162 (by decide) ?_
                          simp only [if_neg hd] at g1 g2 ih
                          refine ih (q + 1) (by omega) _ _ (fun t h1 h2 => ?_) (fun z hz => ?_) (fun o ho => by rw [vm_upd_n _ _ _ ho]; exact g3 o ho)
                          · by_cases e : t = q
                            · rw [e]
                              simp only [vm_upd, upd, if_true]
                              exact g2 _ (by omega)
                            · rw [vm_upd_k _ _ _ (by omega)]
                              exact g1 t (by omega) (by omega)
                          · rw [vm_upd_k _ _ _ (by omega)]
                            exact g2 z (by omega)
                        · have hd : (a = b ∧ i < j) := ⟨c_107, c_113⟩
                          refine q_iload F 5 dX8_copy_116 rfl ?_
                          refine q_iconst F (nI 1) dX8_copy_118 (by decide) ?_
                          refine n_isub F dX8_copy_119 (by omega) ?_
                          refine q_iload F 6 dX8_copy_120 rfl ?_
                          refine n_isub F dX8_copy_122 (by omega) ?_
                          refine q_goto F 128 dX8_copy_123 (by decide) ?_
                          refine q_istore7 F dX8_copy_128 (by decide) rfl ?_
                          refine q_aload_n F 0 dX8_copy_130 rfl rfl ?_
                          refine gX8_26 F dX8_copy_131 sh_202 rfl ?_
                          refine q_bipush F (nI 40) dX8_copy_134 (by decide) ?_
                          refine q_iload_n F 3 dX8_copy_136 rfl rfl ?_
                          refine n_imul F dX8_copy_137 ?_
                          refine q_iload F 4 dX8_copy_138 rfl ?_
                          refine n_iadd F dX8_copy_140 ?_
                          refine q_iload F 7 dX8_copy_141 rfl ?_
                          refine n_iadd F dX8_copy_143 ?_
                          refine q_aload_n F 0 dX8_copy_144 rfl rfl ?_
                          refine gX8_26 F dX8_copy_145 sh_202 rfl ?_
                          refine q_bipush F (nI 40) dX8_copy_148 (by decide) ?_
                          refine q_iload_n F 1 dX8_copy_150 rfl rfl ?_
                          refine n_imul F dX8_copy_151 ?_
                          refine q_iload_n F 2 dX8_copy_152 rfl rfl ?_
                          refine n_iadd F dX8_copy_153 ?_
                          refine q_iload F 7 dX8_copy_154 rfl ?_
                          refine n_iadd F dX8_copy_156 ?_
                          refine q_iald F dX8_copy_157 sh_208 (by omega) (by decide) ?_
                          refine q_iast F dX8_copy_158 sh_208 (by omega) (by decide) ?_
                          refine q_iinc6 F _ dX8_copy_159 (nI_inc _) (by decide) rfl ?_
                          refine q_goto F 98 dX8_copy_162 (by decide) ?_
                          simp only [if_pos hd] at g1 g2 ih
                          refine ih (q + 1) (by omega) _ _ (fun t h1 h2 => ?_) (fun z hz => ?_) (fun o ho => by rw [vm_upd_n _ _ _ ho]; exact g3 o ho)
                          · by_cases e : t = n - 1 - q
                            · rw [e]
                              simp only [vm_upd, upd, if_true]
                              exact g2 _ (by omega)
                            · rw [vm_upd_k _ _ _ (by omega)]
                              exact g1 t (by omega) (by omega)
                          · rw [vm_upd_k _ _ _ (by omega)]
                            exact g2 z (by omega)
                exact L n 0 (by omega) _ _ (fun t h1 h2 => absurd h2 (by split at h1 <;> split <;> omega)) (fun _ _ => rfl) (fun _ _ => rfl)
              · refine q_aload_n F 0 dX8_copy_89 rfl rfl ?_
                refine q_iconst F (nI 2) dX8_copy_90 (by decide) ?_
                refine iX8_53 F dX8_copy_91 (m_find _) (by decide) sh_202 rfl rfl (Nat.le_of_ble_eq_true rfl) (fun v_91 σ_91 h_91 => ?_)
                obtain ⟨rfl, rfl⟩ := h_91
                refine K _ _ _ _ ?_ dX8_copy_94 rfl
                have e : aCopy T (nI a) (nI i) (nI b) u (nI n) = sFound T 2 := by
                  unfold aCopy
                  rw [hxa, hxb, if_neg (by simp [c_4, c_11]), if_neg (by simp [ca, cb]), if_neg (by omega), if_pos (by simp [c_86])]
                rw [e]
                exact ⟨rfl, hM.fnd _, fun o ho => vm_upd_n _ _ _ (by omega)⟩
          · refine q_aload_n F 0 dX8_copy_60 rfl rfl ?_
            refine q_iconst F (nI 5) dX8_copy_61 (by decide) ?_
            refine iX8_53 F dX8_copy_62 (m_find _) (by decide) sh_202 rfl rfl (Nat.le_of_ble_eq_true rfl) (fun v_62 σ_62 h_62 => ?_)
            obtain ⟨rfl, rfl⟩ := h_62
            refine K _ _ _ _ ?_ dX8_copy_65 rfl
            have e : aCopy T (nI a) y (nI b) u w = sFound T 5 := by
              unfold aCopy
              rw [hxa, hxb, if_neg (by simp [c_4, c_11]), if_neg (by simp [ca, cb]), if_pos (by omega)]
            rw [e]
            exact ⟨rfl, hM.fnd _, fun o ho => vm_upd_n _ _ _ (by omega)⟩
        · have cb : T_rl T b = 0 := (ln_none hb4).mp c_36
          refine q_aload_n F 0 dX8_copy_39 rfl rfl ?_
          refine q_iconst F (nI 1) dX8_copy_40 (by decide) ?_
          refine iX8_53 F dX8_copy_41 (m_find _) (by decide) sh_202 rfl rfl (Nat.le_of_ble_eq_true rfl) (fun v_41 σ_41 h_41 => ?_)
          obtain ⟨rfl, rfl⟩ := h_41
          refine K _ _ _ _ ?_ dX8_copy_44 rfl
          have e : aCopy T (nI a) y (nI b) u w = sFound T 1 := by
            unfold aCopy
            rw [hxa, hxb, if_neg (by simp [c_4, c_11]), if_pos (Or.inr cb)]
          rw [e]
          exact ⟨rfl, hM.fnd _, fun o ho => vm_upd_n _ _ _ (by omega)⟩
    · refine q_ldc F dX8_copy_14 wX8_52 ?_
      refine K _ _ _ _ ?_ dX8_copy_16 rfl
      have e : aCopy T (nI a) y z u w = (sBAD, T) := by
        simp [aCopy, c_4, c_11]
      rw [e]
      exact ⟨rfl, hM, fun _ _ => rfl⟩
theorem ssh (x : BitVec 64) (n : Nat) (hn : n ≤ 56) : x.sshiftRight n &&& 255#64 = (x >>> n) &&& 255#64 := by
  apply BitVec.eq_of_getLsbD_eq
  intro j hj
  rw [BitVec.getLsbD_and, BitVec.getLsbD_and, BitVec.getLsbD_sshiftRight, BitVec.getLsbD_ushiftRight]
  by_cases h8 : j < 8
  · have h : n + j < 64 := by omega
    have h2 : ¬ 64 ≤ j := by omega
    simp [h, h2]
  · have : (255#64).getLsbD j = false := by
      show Nat.testBit (BitVec.ofNat 64 255).toNat j = false
      rw [BitVec.toNat_ofNat]
      exact Nat.testBit_lt_two_pow (Nat.lt_of_lt_of_le (show 255 % 2 ^ 64 < 2 ^ 8 by decide) (Nat.pow_le_pow_right (by omega) (by omega)))
    rw [this, Bool.and_false, Bool.and_false]
theorem sh_s : ∀ i, i < 8 → (((nI (8 * i)).toInt64 &&& 63).toBitVec.smod 64).toNat = 8 * i := by decide +kernel
theorem by_val2 {w : Int64} {i : Nat} (hi : i < 8) : (w >>> ((nI (8 * i)).toInt64 &&& 63)) &&& 255 = lN (sByte w i) := by
  rw [← by_val hi]
  apply Int64.toBitVec_inj.1
  rw [Int64.toBitVec_and, Int64.toBitVec_and]
  show w.toBitVec.sshiftRight (((nI (8 * i)).toInt64 &&& 63).toBitVec.smod 64).toNat &&& 255#64 = (w.toUInt64 >>> ((nI (8 * i)).toInt64.toUInt64 &&& Int64.toUInt64 63)).toBitVec &&& 255#64
  rw [sh_s i hi, ssh _ _ (by omega)]
  congr 1
  apply BitVec.eq_of_toNat_eq
  show _ = (w.toUInt64 >>> ((nI (8 * i)).toInt64.toUInt64 &&& Int64.toUInt64 63)).toNat
  rw [UInt64.toNat_shiftRight, by_s i hi, Nat.mod_eq_of_lt (show 8 * i < 64 by omega), BitVec.toNat_ushiftRight]
  rfl
theorem l2i_s : ∀ m, m < 256 → (lN m).toInt32 = nI m := by decide +kernel
theorem MInv.tape {σ σ' : vm_M} {T : vm_T} (h : MInv σ T) {tl : Nat} {tb : Nat → Nat} (ht : mTape σ' tl tb) (e : ∀ o, o ≠ 202 → o ≠ 205 → σ' o = σ o) (d : ∀ k, k ≠ 4 → σ' 202 k = σ 202 k) : MInv σ' (sT_tape T tl tb) := by
  obtain ⟨g1, g2, g3, g4, g5, g6, g7, g8⟩ := h
  refine ⟨?_, ht, ?_, ?_, ?_, ?_, (d _ (by omega)).trans g7, (d _ (by omega)).trans g8⟩
  · unfold mRows; rw [e 206 (by omega) (by omega), e 207 (by omega) (by omega), e 208 (by omega) (by omega)]; exact g1
  · unfold mSec mFix mMov at *; rw [e 203 (by omega) (by omega)]; exact g3
  · unfold mPast mMov at *; rw [d 2 (by omega), e 204 (by omega) (by omega)]; exact g4
  · unfold mImg mSec mFix mMov at *; rw [e 203 (by omega) (by omega)]; exact g5
  · unfold mTr; rw [d 11 (by omega), e 209 (by omega) (by omega)]; exact g6
set_option maxHeartbeats 4000000 in
set_option maxRecDepth 100000 in
theorem m_feed {G : vm_G} {σ : vm_M} {T : vm_T} (hM : MInv σ T) (hI : SInv T) (w : Int64) (n : Int32) : vm_RI G 1 mX8_feed [.ref 202, .long w, .int n] σ (mPost σ (aFeed T w n)) := by
  refine vm_int (y := mX8_feed) (by decide) (Nat.le_of_ble_eq_true rfl) (ls0 := [some (.ref 202), some (.long w), none, some (.int n), none]) rfl rfl (fun C F K => ?_)
  have F : vm_F G C cX8_feed RX8 5 _ := F
  show vm_Ex G C 5 0 [some (.ref 202), some (.long w), none, some (.int n), none] [] _
  obtain ⟨hR, hTp, ⟨hHp, hS⟩, hPs, hIm, hTr, hFl, hFn⟩ := id hM
  have hX := hS.1
  have hM2 : mMov σ 203 (0 + 5) (T_nw T) := hS.2.2
  have hG := hI.1
  have hOk := hG.1
  have hn : V_n (T_nw T) ≤ 6 := hOk.1
  refine q_iload_n F 3 dX8_feed_0 rfl rfl ?_
  refine q_i2l F dX8_feed_1 ?_
  refine q_lconst F (lN 1) dX8_feed_2 (by decide) ?_
  refine q_ldc2 F dX8_feed_3 wX8_64 ?_
  refine iX8_42 F dX8_feed_6 (m_in _ _ _) (by decide) rfl rfl (Nat.le_of_ble_eq_true rfl) (fun v_6 σ_6 h_6 => ?_)
  obtain ⟨rfl, h_6⟩ := h_6
  obtain rfl := h_6.symm
  refine q_top (.int (bI (decide (1 ≤ n.toInt ∧ n.toInt ≤ 8)))) (congrArg Value.int (by rw [Int32.toInt_toInt64]; rfl)) ?_
  refine b_ne F 15 dX8_feed_9 (by decide) (fun c_9 => ?_) (fun c_9 => ?_)
  · have c_9 := of_decide_eq_true c_9
    obtain ⟨m, hm, rfl⟩ := i_of (show 0 ≤ n.toInt by omega)
    have hxm := xN_nI hm
    rw [nI_toInt hm] at c_9
    have h400 := hI.2.2.2.2.2.2.2.1
    refine q_aload_n F 0 dX8_feed_15 rfl rfl ?_
    refine gX8_66 F dX8_feed_16 sh_202 rfl ?_
    refine q_top (.int (nI (T_tl T))) (congrArg Value.int (hTp.1)) ?_
    refine q_iload_n F 3 dX8_feed_19 rfl rfl ?_
    refine n_iadd F dX8_feed_20 ?_
    refine q_sipush F (nI 400) dX8_feed_21 (by decide) ?_
    refine n_le F 30 dX8_feed_24 (by decide) (by omega) (by omega) (fun c_24 => ?_) (fun c_24 => ?_)
    · refine q_iload_n F 3 dX8_feed_30 rfl rfl ?_
      refine q_iconst F (nI 1) dX8_feed_31 (by decide) ?_
      refine n_isub F dX8_feed_32 (by omega) ?_
      refine q_istore4 F dX8_feed_33 (by decide) rfl ?_
      have L : ∀ k d, ∀ σ2 : vm_M, σ2 202 4 = nI (T_tl T + d) → (∀ j, j < T_tl T + d → σ2 205 j = nI ((fun j => if T_tl T ≤ j ∧ j < T_tl T + m then sByte w (m - 1 - (j - T_tl T)) else T_tb T j) j)) → (∀ o, o ≠ 202 → o ≠ 205 → σ2 o = σ o) → (∀ k, k ≠ 4 → σ2 202 k = σ 202 k) → d + k = m → vm_Ex G C 5 35 [some (.ref 202), some (.long w), none, some (.int (nI m)), some (.int (nI k + Int32.ofInt (-1)))] [] σ2 := by
        intro k
        induction k with
        | zero =>
          intro d σ2 g1 g2 g3 g4 hi
          refine q_iload F 4 dX8_feed_35 rfl ?_
          refine q_if_lt F 77 dX8_feed_37 (by decide) (fun c_37 => ?_) (fun c_37 => ?_)
          · refine q_aload_n F 0 dX8_feed_77 rfl rfl ?_
            refine gX8_66 F dX8_feed_78 sh_202 rfl ?_
            refine q_top (.int (nI (T_tl T + d))) (congrArg Value.int (g1)) ?_
            refine K _ _ _ _ ?_ dX8_feed_81 rfl
            have ed : d = m := by omega
            subst ed
            have e : aFeed T w (nI d) = (nI (T_tl T + d), sT_tape T (T_tl T + d) (fun j => if T_tl T ≤ j ∧ j < T_tl T + d then sByte w (d - 1 - (j - T_tl T)) else T_tb T j)) := by
              unfold aFeed
              rw [hxm, if_neg (by rw [nI_toInt (by omega)]; omega), if_neg (by omega)]
            rw [e]
            exact ⟨rfl, hM.tape ⟨g1, g2⟩ g3 g4, fun o ho => g3 o (by omega) (by omega)⟩
          · exact absurd (show nI 0 + Int32.ofInt (-1) < 0 by decide) c_37
        | succ k ih =>
          intro d σ2 g1 g2 g3 g4 hi
          rw [nI_dec]
          refine q_iload F 4 dX8_feed_35 rfl ?_
          refine q_if_lt F 77 dX8_feed_37 (by decide) (fun c_37 => ?_) (fun c_37 => ?_)
          · exact absurd c_37 (nI_pos (by omega))
          · refine q_aload_n F 0 dX8_feed_40 rfl rfl ?_
            refine gX8_16 F dX8_feed_41 sh_202 rfl ?_
            refine q_aload_n F 0 dX8_feed_44 rfl rfl ?_
            refine gX8_66 F dX8_feed_45 sh_202 rfl ?_
            refine q_top (.int (nI (T_tl T + d))) (congrArg Value.int (g1)) ?_
            refine q_lload_n F 1 dX8_feed_48 rfl rfl ?_
            refine q_bipush F (nI 8) dX8_feed_49 (by decide) ?_
            refine q_iload F 4 dX8_feed_51 rfl ?_
            refine n_imul F dX8_feed_53 ?_
            refine q_lshr F dX8_feed_54 ?_
            refine q_ldc2 F dX8_feed_55 wX8_70 ?_
            refine q_land F dX8_feed_58 ?_
            refine q_l2i F dX8_feed_59 ?_
            refine q_top (.int (nI (sByte w k))) (congrArg Value.int (by rw [by_val2 (by omega)]; exact l2i_s _ (sByte_lt _ _))) ?_
            refine q_iast F dX8_feed_60 sh_205 (by omega) (by decide) ?_
            refine q_aload_n F 0 dX8_feed_61 rfl rfl ?_
            refine q_dup F dX8_feed_62 rfl ?_
            refine gX8_66 F dX8_feed_63 sh_202 rfl ?_
            refine q_top (.int (nI (T_tl T + d))) (congrArg Value.int (by rw [vm_upd_n _ _ _ (by omega)]; exact g1)) ?_
            refine q_iconst F (nI 1) dX8_feed_66 (by decide) ?_
            refine n_iadd F dX8_feed_67 ?_
            refine pX8_66 F dX8_feed_68 sh_202 rfl ⟨rfl, rfl⟩ ?_
            refine q_iinc4 F _ dX8_feed_71 rfl (by decide) rfl ?_
            refine q_goto F 35 dX8_feed_74 (by decide) ?_
            refine ih (d + 1) _ ?_ ?_ ?_ ?_ (by omega)
            · simp [vm_upd, upd, Nat.add_assoc]
            · intro j hj
              rw [vm_upd_n _ _ _ (by omega)]
              by_cases ej : j = T_tl T + d
              · rw [ej]
                show _ = nI (if T_tl T ≤ T_tl T + d ∧ T_tl T + d < T_tl T + m then sByte w (m - 1 - (T_tl T + d - T_tl T)) else T_tb T (T_tl T + d))
                rw [if_pos (by omega), show m - 1 - (T_tl T + d - T_tl T) = k by omega]
                simp [vm_upd, upd]
              · rw [vm_upd_k _ _ _ ej]
                exact g2 j (by omega)
            · intro o a b
              rw [vm_upd_n _ _ _ a, vm_upd_n _ _ _ b]
              exact g3 o a b
            · intro j hj
              rw [vm_upd_k _ _ _ hj, vm_upd_n _ _ _ (by omega)]
              exact g4 j hj
      obtain ⟨q, rfl⟩ : ∃ q, m = q + 1 := ⟨m - 1, by omega⟩
      rw [Nat.add_sub_cancel, ← nI_dec q]
      exact L (q + 1) 0 _ hTp.1 (fun j hj => by
        show _ = nI (if T_tl T ≤ j ∧ j < T_tl T + (q + 1) then sByte w (q + 1 - 1 - (j - T_tl T)) else T_tb T j)
        rw [if_neg (by omega)]
        exact hTp.2 j (by omega)) (fun _ _ _ => rfl) (fun _ _ => rfl) (by omega)
    · refine q_ldc F dX8_feed_27 wX8_69 ?_
      refine K _ _ _ _ ?_ dX8_feed_29 rfl
      have e : aFeed T w (nI m) = (sFULL, T) := by
        unfold aFeed
        rw [hxm, if_neg (by rw [nI_toInt (by omega)]; omega), if_pos (by omega)]
      rw [e]
      exact ⟨rfl, hM, fun _ _ => rfl⟩
  · have c_9 := of_decide_eq_false c_9
    refine q_ldc F dX8_feed_12 wX8_52 ?_
    refine K _ _ _ _ ?_ dX8_feed_14 rfl
    have e : aFeed T w n = (sBAD, T) := by
      unfold aFeed
      rw [if_pos (by omega)]
    rw [e]
    exact ⟨rfl, hM, fun _ _ => rfl⟩
