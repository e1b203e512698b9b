theorem sSoon_le (v : vm_V) : ∀ s, (sSoon v s).1 ≤ 121
  | 0 => Nat.le_refl _
  | s + 1 => by
    have := sSoon_le v s
    unfold sSoon
    split
    · next h => show sF (fun k => decide (V_fin (sHs k (sOut s v)) &&& nI (2 ^ V_n v - 1) = nI (2 ^ V_n v - 1))) (sSoon v s).1 ≤ 121; omega
    · exact this
theorem sSoon_y {v : vm_V} {s u : Nat} (h1 : sCan (V_kd v) (V_n v) s = true) (h2 : sF (fun k => decide (V_fin (sHs k (sOut s v)) &&& nI (2 ^ V_n v - 1) = nI (2 ^ V_n v - 1))) (sSoon v s).1 = u) (h3 : u < (sSoon v s).1) : sSoon v (s + 1) = (u, nI s) := by
  have h4 : sF (fun k => decide (V_fin (sHs k (sOut s v)) &&& nI (2 ^ V_n v - 1) = nI (2 ^ V_n v - 1))) (sSoon v s).1 < (sSoon v s).1 := by rw [h2]; exact h3
  rw [sSoon, if_pos ⟨h1, h4⟩, h2]
theorem sSoon_n1 {v : vm_V} {s : Nat} (h1 : sCan (V_kd v) (V_n v) s = false) : sSoon v (s + 1) = sSoon v s := by
  rw [sSoon, if_neg (fun z => by rw [h1] at z; exact absurd z.1 (by decide))]
theorem sSoon_n2 {v : vm_V} {s : Nat} (h2 : ¬ sF (fun k => decide (V_fin (sHs k (sOut s v)) &&& nI (2 ^ V_n v - 1) = nI (2 ^ V_n v - 1))) (sSoon v s).1 < (sSoon v s).1) : sSoon v (s + 1) = sSoon v s := by
  rw [sSoon, if_neg (fun z => h2 z.2)]
set_option maxHeartbeats 4000000 in
set_option maxRecDepth 100000 in
theorem c_hum1 {G : vm_G} {σ : vm_M} {b : Nat} (hb : vm_pathAt b) {v : vm_V} (w : Int32) : vm_RI G 0 mX2_halvesUntil [.ref b, .int w, .int (-1)] (vm_P σ b v) (fun r σ' => r = -1000000 ∧ σ' = vm_P σ b v) := by
  refine vm_int (y := mX2_halvesUntil) (by decide) (Nat.le_of_ble_eq_true rfl) (ls0 := [some (.ref b), some (.int w), some (.int (-1)), none]) rfl rfl (fun C F K => ?_)
  have F : vm_F G C cX2_halvesUntil RX2 4 _ := F
  show vm_Ex G C 4 0 [some (.ref b), some (.int w), some (.int (-1)), none] [] _
  refine q_iconst F (nI 0) dX2_halvesUntil_0 (by decide) ?_
  refine q_istore_n3 F dX2_halvesUntil_1 (by decide) rfl ?_
  refine q_iload_n F 3 dX2_halvesUntil_2 rfl rfl ?_
  refine q_iload_n F 2 dX2_halvesUntil_3 rfl rfl ?_
  refine q_icmp_gt F 34 dX2_halvesUntil_4 (by decide) (fun c_4 => ?_) (fun c_4 => ?_)
  · refine q_ldc F dX2_halvesUntil_34 wX2_70 ?_
    exact K _ _ _ _ (⟨rfl, rfl⟩) dX2_halvesUntil_36 rfl
  · exact absurd (show (-1 : Int32) < nI 0 by decide) c_4
set_option maxHeartbeats 4000000 in
set_option maxRecDepth 100000 in
theorem k_soon {G : vm_G} {σ : vm_M} {T : vm_T} (hC : CInv σ T) (hI : SInv T) (w : Int32) : vm_RI G 4 mX7_soon [.ref 0, .int w] σ (cPost σ (aSoon T w)) := by
  refine vm_int (y := mX7_soon) (by decide) (Nat.le_of_ble_eq_true rfl) (ls0 := [some (.ref 0), some (.int w), none, none, none, none, none, none]) rfl rfl (fun C F K => ?_)
  have F : vm_F G C cX7_soon RX7 8 _ := F
  show vm_Ex G C 8 0 [some (.ref 0), some (.int w), none, none, none, none, none, none] [] _
  obtain ⟨hRows, hTape, hNow, hPast, hImg, hTr, hFlt, hFnd, hDr⟩ := id hC
  have hN := hNow.2
  have hOk : sOk (T_nw T) := hI.1.1
  have hn6 : V_n (T_nw T) ≤ 6 := hOk.1
  refine q_aload_n F 0 dX7_soon_0 rfl rfl ?_
  refine gX7_64 F dX7_soon_1 sh_0 rfl ?_
  refine q_top (.int (bI (T_hp T))) (congrArg Value.int (hNow.1)) ?_
  refine b_ne F 10 dX7_soon_4 (by decide) (fun c_4 => ?_) (fun c_4 => ?_)
  · refine q_iload_n F 1 dX7_soon_10 rfl rfl ?_
    refine q_iconst F (nI 2) dX7_soon_11 (by decide) ?_
    refine iX7_76 F dX7_soon_12 (c_isWithin w (by decide)) (by decide) rfl rfl (Nat.le_of_ble_eq_true rfl) (fun v_12 σ_12 h_12 => ?_)
    obtain ⟨rfl, rfl⟩ := h_12
    refine b_ne F 21 dX7_soon_15 (by decide) (fun c_15 => ?_) (fun c_15 => ?_)
    · obtain ⟨w1, hw1, rfl⟩ := wi_of c_15
      have hN64 := pow6 hn6
      obtain ⟨N, hNN⟩ : ∃ N, N = 2 ^ V_n (T_nw T) := ⟨_, rfl⟩
      have hN1 : 1 ≤ N := by rw [hNN]; exact Nat.two_pow_pos _
      rw [← hNN] at hN64
      refine q_aload_n F 0 dX7_soon_21 rfl rfl ?_
      refine gX7_25 F dX7_soon_22 sh_0 rfl ?_
      refine iX7_197 F dX7_soon_25 (d_sets hN path5 hOk) (by decide) path5.1 rfl rfl (Nat.le_of_ble_eq_true rfl) (fun v_25 σ_25 h_25 => ?_)
      obtain ⟨rfl, rfl⟩ := h_25
      refine q_top (.int (nI N)) (congrArg Value.int (by rw [hNN])) ?_
      refine q_iconst F (nI 1) dX7_soon_28 (by decide) ?_
      refine n_isub F dX7_soon_29 hN1 ?_
      refine q_istore_n2 F dX7_soon_30 (by decide) rfl ?_
      refine q_ldc F dX7_soon_31 wX7_193 ?_
      refine q_istore_n3 F dX7_soon_33 (by decide) rfl ?_
      refine q_ldc F dX7_soon_34 wX7_193 ?_
      refine q_istore4 F dX7_soon_36 (by decide) rfl ?_
      refine q_iconst F (nI 0) dX7_soon_38 (by decide) ?_
      refine q_istore5 F dX7_soon_39 (by decide) rfl ?_
      have L : ∀ k s, ∀ (σ2 : vm_M) (x6 x7 : Option Value), fz σ_25 σ2 → s + k = N → vm_Ex G C 8 41 [some (.ref 0), some (.int (nI w1)), some (.int (nI (N - 1))), some (.int (if (sSoon (T_nw T) s).1 < 121 then nI (sSoon (T_nw T) s).1 else -1000000)), some (.int (sSoon (T_nw T) s).2), some (.int (nI s)), x6, x7] [] σ2 := by
        intro k
        induction k with
        | zero =>
          intro s σ2 x6 x7 g0 hi
          refine q_iload F 5 dX7_soon_41 rfl ?_
          refine q_aload_n F 0 dX7_soon_43 rfl rfl ?_
          refine gX7_25 F dX7_soon_44 sh_0 rfl ?_
          refine iX7_197 F dX7_soon_47 (d_sets (hN.fr (fun o a b => g0 o (by omega) (by omega))) path5 hOk) (by decide) path5.1 rfl rfl (Nat.le_of_ble_eq_true rfl) (fun v_47 σ_47 h_47 => ?_)
          obtain ⟨rfl, rfl⟩ := h_47
          refine q_top (.int (nI N)) (congrArg Value.int (by rw [hNN])) ?_
          refine n_ge F 110 dX7_soon_50 (by decide) (by omega) (by omega) (fun c_50 => ?_) (fun c_50 => ?_)
          · refine q_iload_n F 1 dX7_soon_110 rfl rfl ?_
            refine z_ne F 118 dX7_soon_111 (by decide) (by omega) (fun c_111 => ?_) (fun c_111 => ?_)
            · refine q_iload F 4 dX7_soon_118 rfl ?_
              refine K _ _ _ _ ?_ dX7_soon_120 rfl
              have e : aSoon T (nI w1) = ((if nI w1 = nI 0 then (if (sSoon (T_nw T) N).1 < 121 then nI (sSoon (T_nw T) N).1 else sNONE) else (sSoon (T_nw T) N).2), T) := by
                unfold aSoon
                rw [if_neg (by simp [c_4]), if_neg (by simp [c_15]), ← hNN]
              rw [e, show N = s by omega]
              have hw0 : ¬ nI w1 = nI 0 := fun z => c_111 ((nI_eq (by omega) (by decide)).mp z)
              exact ⟨by rw [if_neg hw0], hC.fr (fun o a b c d => g0 o (by omega) (by omega)), fun o ho => g0 o (by omega) (by omega)⟩
            · refine q_iload_n F 3 dX7_soon_114 rfl rfl ?_
              refine q_goto F 120 dX7_soon_115 (by decide) ?_
              refine K _ _ _ _ ?_ dX7_soon_120 rfl
              have e : aSoon T (nI w1) = ((if nI w1 = nI 0 then (if (sSoon (T_nw T) N).1 < 121 then nI (sSoon (T_nw T) N).1 else sNONE) else (sSoon (T_nw T) N).2), T) := by
                unfold aSoon
                rw [if_neg (by simp [c_4]), if_neg (by simp [c_15]), ← hNN]
              rw [e, show N = s by omega]
              exact ⟨(if_pos (show nI w1 = nI 0 by rw [c_111])).symm, hC.fr (fun o a b c d => g0 o (by omega) (by omega)), fun o ho => g0 o (by omega) (by omega)⟩
          · omega
        | succ k ih =>
          intro s σ2 x6 x7 g0 hi
          refine q_iload F 5 dX7_soon_41 rfl ?_
          refine q_aload_n F 0 dX7_soon_43 rfl rfl ?_
          refine gX7_25 F dX7_soon_44 sh_0 rfl ?_
          refine iX7_197 F dX7_soon_47 (d_sets (hN.fr (fun o a b => g0 o (by omega) (by omega))) path5 hOk) (by decide) path5.1 rfl rfl (Nat.le_of_ble_eq_true rfl) (fun v_47 σ_47 h_47 => ?_)
          obtain ⟨rfl, rfl⟩ := h_47
          refine q_top (.int (nI N)) (congrArg Value.int (by rw [hNN])) ?_
          refine n_ge F 110 dX7_soon_50 (by decide) (by omega) (by omega) (fun c_50 => ?_) (fun c_50 => ?_)
          · omega
          · refine q_aload_n F 0 dX7_soon_53 rfl rfl ?_
            refine q_iload F 5 dX7_soon_54 rfl ?_
            refine iX7_201 F dX7_soon_56 (c_trial (hN.fr (fun o a b => g0 o (by omega) (by omega))) hOk (by omega)) (by decide) sh_0 rfl rfl (Nat.le_of_ble_eq_true rfl) (fun v_56 σ_56 h_56 => ?_)
            obtain ⟨rfl, h72⟩ := h_56
            refine b_eq F 104 dX7_soon_59 (by decide) (fun c_59 => ?_) (fun c_59 => ?_)
            · rw [c_59] at h72
              simp only [Bool.false_eq_true, if_false] at h72
              subst h72
              refine q_iinc5 F _ dX7_soon_104 (nI_inc _) (by decide) rfl ?_
              refine q_goto F 41 dX7_soon_107 (by decide) ?_
              have hh := ih (s + 1) σ_56 x6 x7 g0 (by omega)
              simp only [sSoon_n1 c_59] at hh
              exact hh
            · rw [c_59] at h72
              simp only [if_true] at h72
              subst h72
              have hle := sSoon_le (T_nw T) s
              rcases (show (sSoon (T_nw T) s).1 = 121 ∨ (0 < (sSoon (T_nw T) s).1 ∧ (sSoon (T_nw T) s).1 < 121) ∨ (sSoon (T_nw T) s).1 = 0 by omega) with hBB | ⟨hB0, hB1⟩ | hBB
              · rw [hBB, if_neg (show ¬ (121 : Nat) < 121 by decide)]
                refine q_iload_n F 3 dX7_soon_62 rfl rfl ?_
                refine q_ldc F dX7_soon_63 wX7_193 ?_
                refine q_icmp_ne F 73 dX7_soon_65 (by decide) (fun c_65 => ?_) (fun c_65 => ?_)
                · exact absurd rfl c_65
                · refine q_bipush F (nI 120) dX7_soon_68 (by decide) ?_
                  refine q_goto F 76 dX7_soon_70 (by decide) ?_
                  refine q_istore6 F dX7_soon_76 (by decide) rfl ?_
                  refine q_aload_n F 0 dX7_soon_78 rfl rfl ?_
                  refine gX7_32 F dX7_soon_79 sh_0 rfl ?_
                  refine q_iload_n F 2 dX7_soon_82 rfl rfl ?_
                  refine q_iload F 6 dX7_soon_83 rfl ?_
                  refine iX7_190 F dX7_soon_85 (c_halvesUntil path17 (sOk_Out hOk s) (m := 120) (by omega) (nI (N - 1))) (by decide) path17.1 rfl rfl (Nat.le_of_ble_eq_true rfl) (fun v_85 σ_85 h_85 => ?_)
                  rcases h_85 with ⟨hu, rfl, rfl⟩ | ⟨hu, rfl, rfl⟩
                  · refine q_istore7 F dX7_soon_88 (by decide) rfl ?_
                    refine q_iload F 7 dX7_soon_90 rfl ?_
                    refine q_ldc F dX7_soon_92 wX7_193 ?_
                    refine q_icmp_eq F 104 dX7_soon_94 (by decide) (fun c_94 => ?_) (fun c_94 => ?_)
                    · exact absurd c_94 (nI_neN (by omega))
                    · refine q_iload F 7 dX7_soon_97 rfl ?_
                      refine q_istore_n3 F dX7_soon_99 (by decide) rfl ?_
                      refine q_iload F 5 dX7_soon_100 rfl ?_
                      refine q_istore4 F dX7_soon_102 (by decide) rfl ?_
                      refine q_iinc5 F _ dX7_soon_104 (nI_inc _) (by decide) rfl ?_
                      refine q_goto F 41 dX7_soon_107 (by decide) ?_
                      have hs := sSoon_y (v := T_nw T) (s := s) (u := sU (nI (N - 1)) (sOut s (T_nw T)) 120) c_59 (by rw [← hNN, hBB]; rfl) (by rw [hBB]; omega)
                      have hh := ih (s + 1) (vm_P σ_47 17 (sHs (sU (nI (N - 1)) (sOut s (T_nw T)) 120) (sOut s (T_nw T)))) (some (.int (nI 120))) (some (.int (nI (sU (nI (N - 1)) (sOut s (T_nw T)) 120)))) (fun o a b => by rw [vm_P_out (by omega)]; exact g0 o a b) (by omega)
                      simp only [hs] at hh
                      rw [if_pos (show sU (nI (N - 1)) (sOut s (T_nw T)) 120 < 121 by omega)] at hh
                      exact hh
                  · refine q_istore7 F dX7_soon_88 (by decide) rfl ?_
                    refine q_iload F 7 dX7_soon_90 rfl ?_
                    refine q_ldc F dX7_soon_92 wX7_193 ?_
                    refine q_icmp_eq F 104 dX7_soon_94 (by decide) (fun c_94 => ?_) (fun c_94 => ?_)
                    · refine q_iinc5 F _ dX7_soon_104 (nI_inc _) (by decide) rfl ?_
                      refine q_goto F 41 dX7_soon_107 (by decide) ?_
                      have hs := sSoon_n2 (v := T_nw T) (s := s) (by rw [← hNN, hBB]; show ¬ sU (nI (N - 1)) (sOut s (T_nw T)) 120 < 120 + 1; omega)
                      have hh := ih (s + 1) (vm_P σ_47 17 (sHs 120 (sOut s (T_nw T)))) (some (.int (nI 120))) (some (.int (-1000000))) (fun o a b => by rw [vm_P_out (by omega)]; exact g0 o a b) (by omega)
                      simp only [hs] at hh
                      rw [hBB, if_neg (by decide)] at hh
                      exact hh
                    · exact absurd rfl c_94
              · obtain ⟨m, hBB⟩ : ∃ m, (sSoon (T_nw T) s).1 = m + 1 := ⟨(sSoon (T_nw T) s).1 - 1, by omega⟩
                have hB : m + 1 < 121 := by omega
                rw [hBB, if_pos hB]
                refine q_iload_n F 3 dX7_soon_62 rfl rfl ?_
                refine q_ldc F dX7_soon_63 wX7_193 ?_
                refine q_icmp_ne F 73 dX7_soon_65 (by decide) (fun c_65 => ?_) (fun c_65 => ?_)
                · refine q_iload_n F 3 dX7_soon_73 rfl rfl ?_
                  refine q_iconst F (nI 1) dX7_soon_74 (by decide) ?_
                  refine n_isub F dX7_soon_75 (by omega) ?_
                  refine q_top (.int (nI m)) (congrArg Value.int (by rw [Nat.add_sub_cancel])) ?_
                  refine q_istore6 F dX7_soon_76 (by decide) rfl ?_
                  refine q_aload_n F 0 dX7_soon_78 rfl rfl ?_
                  refine gX7_32 F dX7_soon_79 sh_0 rfl ?_
                  refine q_iload_n F 2 dX7_soon_82 rfl rfl ?_
                  refine q_iload F 6 dX7_soon_83 rfl ?_
                  refine iX7_190 F dX7_soon_85 (c_halvesUntil path17 (sOk_Out hOk s) (m := m) (by omega) (nI (N - 1))) (by decide) path17.1 rfl rfl (Nat.le_of_ble_eq_true rfl) (fun v_85 σ_85 h_85 => ?_)
                  rcases h_85 with ⟨hu, rfl, rfl⟩ | ⟨hu, rfl, rfl⟩
                  · refine q_istore7 F dX7_soon_88 (by decide) rfl ?_
                    refine q_iload F 7 dX7_soon_90 rfl ?_
                    refine q_ldc F dX7_soon_92 wX7_193 ?_
                    refine q_icmp_eq F 104 dX7_soon_94 (by decide) (fun c_94 => ?_) (fun c_94 => ?_)
                    · exact absurd c_94 (nI_neN (by omega))
                    · refine q_iload F 7 dX7_soon_97 rfl ?_
                      refine q_istore_n3 F dX7_soon_99 (by decide) rfl ?_
                      refine q_iload F 5 dX7_soon_100 rfl ?_
                      refine q_istore4 F dX7_soon_102 (by decide) rfl ?_
                      refine q_iinc5 F _ dX7_soon_104 (nI_inc _) (by decide) rfl ?_
                      refine q_goto F 41 dX7_soon_107 (by decide) ?_
                      have hs := sSoon_y (v := T_nw T) (s := s) (u := sU (nI (N - 1)) (sOut s (T_nw T)) m) c_59 (by rw [← hNN, hBB]; rfl) (by rw [hBB]; omega)
                      have hh := ih (s + 1) (vm_P σ_47 17 (sHs (sU (nI (N - 1)) (sOut s (T_nw T)) m) (sOut s (T_nw T)))) (some (.int (nI m))) (some (.int (nI (sU (nI (N - 1)) (sOut s (T_nw T)) m)))) (fun o a b => by rw [vm_P_out (by omega)]; exact g0 o a b) (by omega)
                      simp only [hs] at hh
                      rw [if_pos (show sU (nI (N - 1)) (sOut s (T_nw T)) m < 121 by omega)] at hh
                      exact hh
                  · refine q_istore7 F dX7_soon_88 (by decide) rfl ?_
                    refine q_iload F 7 dX7_soon_90 rfl ?_
                    refine q_ldc F dX7_soon_92 wX7_193 ?_
                    refine q_icmp_eq F 104 dX7_soon_94 (by decide) (fun c_94 => ?_) (fun c_94 => ?_)
                    · refine q_iinc5 F _ dX7_soon_104 (nI_inc _) (by decide) rfl ?_
                      refine q_goto F 41 dX7_soon_107 (by decide) ?_
                      have hs := sSoon_n2 (v := T_nw T) (s := s) (by rw [← hNN, hBB]; show ¬ sU (nI (N - 1)) (sOut s (T_nw T)) m < m + 1; omega)
                      have hh := ih (s + 1) (vm_P σ_47 17 (sHs m (sOut s (T_nw T)))) (some (.int (nI m))) (some (.int (-1000000))) (fun o a b => by rw [vm_P_out (by omega)]; exact g0 o a b) (by omega)
                      simp only [hs] at hh
                      rw [hBB, if_pos hB] at hh
                      exact hh
                    · exact absurd rfl c_94
                · exact absurd c_65 (nI_neN (by omega))
              · rw [hBB, if_pos (show (0 : Nat) < 121 by decide)]
                refine q_iload_n F 3 dX7_soon_62 rfl rfl ?_
                refine q_ldc F dX7_soon_63 wX7_193 ?_
                refine q_icmp_ne F 73 dX7_soon_65 (by decide) (fun c_65 => ?_) (fun c_65 => ?_)
                · refine q_iload_n F 3 dX7_soon_73 rfl rfl ?_
                  refine q_iconst F (nI 1) dX7_soon_74 (by decide) ?_
                  refine q_isub F dX7_soon_75 ?_
                  refine q_top (.int (-1)) (congrArg Value.int (by decide)) ?_
                  refine q_istore6 F dX7_soon_76 (by decide) rfl ?_
                  refine q_aload_n F 0 dX7_soon_78 rfl rfl ?_
                  refine gX7_32 F dX7_soon_79 sh_0 rfl ?_
                  refine q_iload_n F 2 dX7_soon_82 rfl rfl ?_
                  refine q_iload F 6 dX7_soon_83 rfl ?_
                  refine iX7_190 F dX7_soon_85 (c_hum1 path17 (nI (N - 1))) (by decide) path17.1 rfl rfl (Nat.le_of_ble_eq_true rfl) (fun v_85 σ_85 h_85 => ?_)
                  obtain ⟨rfl, rfl⟩ := h_85
                  refine q_istore7 F dX7_soon_88 (by decide) rfl ?_
                  refine q_iload F 7 dX7_soon_90 rfl ?_
                  refine q_ldc F dX7_soon_92 wX7_193 ?_
                  refine q_icmp_eq F 104 dX7_soon_94 (by decide) (fun c_94 => ?_) (fun c_94 => ?_)
                  · refine q_iinc5 F _ dX7_soon_104 (nI_inc _) (by decide) rfl ?_
                    refine q_goto F 41 dX7_soon_107 (by decide) ?_
                    have hs := sSoon_n2 (v := T_nw T) (s := s) (by rw [hBB]; omega)
                    have hh := ih (s + 1) (vm_P σ_47 17 (sOut s (T_nw T))) (some (.int (-1))) (some (.int (-1000000))) (fun o a b => by rw [vm_P_out (by omega)]; exact g0 o a b) (by omega)
                    simp only [hs] at hh
                    rw [hBB, if_pos (by decide)] at hh
                    exact hh
                  · exact absurd rfl c_94
                · exact absurd c_65 (nI_neN (by omega))
      exact L N 0 _ _ _ (fun _ _ _ => rfl) (by omega)
    · refine q_ldc F dX7_soon_18 wX7_80 ?_
      refine K _ _ _ _ ?_ dX7_soon_20 rfl
      have e : aSoon T w = (sBAD, T) := by
        simp [aSoon, c_4, c_15]
      rw [e]
      exact ⟨rfl, hC, fun _ _ => rfl⟩
  · refine q_ldc F dX7_soon_7 wX7_152 ?_
    refine K _ _ _ _ ?_ dX7_soon_9 rfl
    have e : aSoon T w = (sSTATE, T) := by
      simp [aSoon, c_4]
    rw [e]
    exact ⟨rfl, hC, fun _ _ => rfl⟩
