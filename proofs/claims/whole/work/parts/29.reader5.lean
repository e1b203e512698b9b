theorem nI_ne_none {v : Nat} (h : v < 6) : ¬ nI v = (-1000000 : Int32) := by
  rcases (show v = 0 ∨ v = 1 ∨ v = 2 ∨ v = 3 ∨ v = 4 ∨ v = 5 by omega) with rfl | rfl | rfl | rfl | rfl | rfl <;> decide
theorem bit_I {v : Nat} (h : v ≤ 1) : nI v = bI (decide (v = 1)) := by
  rcases (show v = 0 ∨ v = 1 by omega) with rfl | rfl <;> decide
theorem rSpt_ok {tl p hi : Nat} {tb : Nat → Nat} (h : rSpt tl tb p hi = 0) : tTy tl tb p = 2 := by
  unfold rSpt at h
  split at h
  · next h1 =>
    unfold rNum at h1
    split at h1
    · assumption
    · omega
  · omega
theorem vm_u_lt {f : Nat → Nat} {m j x : Nat} (h : ∀ p, f p < m) (hx : x < m) (p : Nat) : vm_u f j x p < m := by
  by_cases e : p = j
  · subst e; rw [vm_u_s]; exact hx
  · rw [vm_u_n e]; exact h p
section
variable {G : vm_G} {σ : vm_M} {tl : Nat} {tb : Nat → Nat} {v x k : Nat}
theorem qK_lt : qK tl tb k < 6 := kOf_lt _ _ _ _
theorem t_kindTold (hT : cTape σ tl tb) : vm_RI G 5 mX3_kindTold [.ref 2] (vm_Rd σ (tEnd tl tb (tQ tl tb k), tQ tl tb k, tTy tl tb (tQ tl tb k), v, x)) (fun r σ' => r = (if qK tl tb k = 0 then -1000000 else nI (qK tl tb k)) ∧ σ' = vm_Rd σ (tEnd tl tb (tQ tl tb k), tQ tl tb k, tTy tl tb (tQ tl tb k), v, x)) :=
  c_kindTold hT (tEnd_le (tQ_le tl tb k)).1 (tEnd_le (tQ_le tl tb k)).2 (tTy_le _ _ _)
end
theorem top_small {q : Nat} (h : q ≤ 30) : 2 * q < 2 ^ 31 := by omega
theorem sm_small {a q : Nat} (h1 : a ≤ 2 * q) (h : q ≤ 30) : a < 2 ^ 31 := by omega
theorem sF_all {f : Nat → Bool} {n i : Nat} (h : ¬ sF f n < n) (hi : i < n) : f i = false := sF_before (m := n) (by have := sF_le f n; omega)
set_option maxHeartbeats 800000 in
set_option maxRecDepth 100000 in
theorem c_readsOne {G : vm_G} {σ : vm_M} {tl : Nat} {tb : Nat → Nat} (hT : cTape σ tl tb) {kd : Nat → Nat} {gl sp : Nat → Int32} {wy : Nat → Bool} {er : Nat → Nat} {top law n gn : Nat} {fin : Int32} {f t v x : Nat} (hn : n < 6) (hG : vGood tl tb (kd, gl, sp, wy, er, top, law, n, gn, fin) n) (hK : ∀ p, kd p < 6) : vm_RI G 6 mX3_readsOne [.ref 2, .ref 11, .int (nI n)] (vm_Rd (vm_P σ 11 (kd, gl, sp, wy, er, top, law, n, gn, fin)) ((tEnd tl tb (tQ tl tb (4 + 6 * n))), f, t, v, x)) (fun r σ' => ∃ v' a2 f2 t2 v2 x2, σ' = vm_Rd (vm_P σ 11 v') (a2, f2, t2, v2, x2) ∧ r = bI (decide ((rOne tl tb n (4 + 6 * n)).1 = 0)) ∧ (∀ p, V_kd v' p < 6) ∧ ((rOne tl tb n (4 + 6 * n)).1 = 0 → vGood tl tb v' (n + 1) ∧ a2 = (tEnd tl tb (tQ tl tb (4 + 6 * n + 5)))) ∧ ((rOne tl tb n (4 + 6 * n)).1 ≠ 0 → f2 = tQ tl tb (rOne tl tb n (4 + 6 * n)).2 ∧ x2 = (rOne tl tb n (4 + 6 * n)).1)) := by
  refine vm_int (y := mX3_readsOne) (by decide) (Nat.le_of_ble_eq_true rfl) (ls0 := [some (.ref 2), some (.ref 11), some (.int (nI n)), none]) rfl rfl (fun C F K => ?_)
  have F : vm_F G C cX3_readsOne RX3 4 _ := F
  show vm_Ex G C 4 0 [some (.ref 2), some (.ref 11), some (.int (nI n)), none] [] _
  have hp31 := tl.zero_le
  have hg := hG
  obtain ⟨g1, g2, g3, g4, g5, g6, g7, g8, g9⟩ := hg
  dsimp only [V_top, V_law, V_n, V_gn, V_fin] at g1 g2 g3 g4 g5
  obtain rfl := g1.symm
  obtain rfl := g2.symm
  obtain rfl := g4.symm
  obtain rfl := g5.symm
  obtain ⟨k, hk⟩ : ∃ k, k = 4 + 6 * n := ⟨_, rfl⟩
  rw [← hk]
  rw [← hk] at K
  refine q_aload_n F 0 dX3_readsOne_0 rfl rfl ?_
  refine iX3_38 F dX3_readsOne_1 (t_next hT.P (k := k) (k' := k + 1) rfl) (by decide) sh_2 rfl rfl (Nat.le_of_ble_eq_true rfl) (fun σ_1 h_1 => ?_)
  obtain ⟨⟨a1, f1, t1, v1, x1⟩, hs0, ⟨e1, e2, e3, -, -⟩, e6⟩ := h_1
  obtain rfl := hs0.symm
  dsimp only at e1 e2 e3 e6
  obtain rfl := e1.symm
  obtain rfl := e2.symm
  obtain rfl := e3.symm
  obtain rfl := e6.symm
  clear hs0 e1 e2 e3 e6
  refine q_aload_n F 0 dX3_readsOne_4 rfl rfl ?_
  refine iX3_74 F dX3_readsOne_5 (t_kindTold (k := k + 1) hT.P) (by decide) sh_2 rfl rfl (Nat.le_of_ble_eq_true rfl) (fun v_5 σ_5 h_5 => ?_)
  obtain ⟨rfl, rfl⟩ := h_5
  refine q_istore_n3 F dX3_readsOne_8 (by decide) rfl ?_
  refine q_iload_n F 3 dX3_readsOne_9 rfl rfl ?_
  refine q_ldc F dX3_readsOne_10 wX3_78 ?_
  refine q_icmp_ne F 21 dX3_readsOne_12 (by decide) (fun c_12 => ?_) (fun c_12 => ?_)
  · have c0 : ¬ qK tl tb (k + 1) = 0 := fun z => c_12 (by rw [if_pos z])
    rw [if_neg c0]
    refine q_aload_n F 1 dX3_readsOne_21 rfl rfl ?_
    refine gpX3_79 F dX3_readsOne_22 path11 ?_
    refine q_iload_n F 2 dX3_readsOne_25 rfl rfl ?_
    refine q_iload_n F 3 dX3_readsOne_26 rfl rfl ?_
    rw [vm_RP]
    refine sto_kd F dX3_readsOne_27 path11 hn ?_
    refine q_aload_n F 0 dX3_readsOne_28 rfl rfl ?_
    refine q_aload_n F 1 dX3_readsOne_29 rfl rfl ?_
    refine gpX3_83 F dX3_readsOne_30 path11 ?_
    rw [← vm_RP]
    refine iX3_86 F dX3_readsOne_33 (t_readsSpot hT.P (k := k + 1) (k' := k + 2) rfl (top_small g7)) (by decide) sh_2 rfl rfl (Nat.le_of_ble_eq_true rfl) (fun v_33 σ_33 h_33 => ?_)
    obtain ⟨t3, v3, hv0, hs0, e33⟩ := h_33
    obtain rfl := hv0.symm
    obtain rfl := hs0.symm
    clear hv0 hs0
    refine b_ne F 41 dX3_readsOne_36 (by decide) (fun c_36 => ?_) (fun c_36 => ?_)
    · have c_36 := of_decide_eq_true c_36
      obtain ⟨ev0, e7, e8⟩ := e33 c_36
      obtain rfl := ev0.symm
      clear ev0 e33
      refine q_aload_n F 1 dX3_readsOne_41 rfl rfl ?_
      refine q_aload_n F 0 dX3_readsOne_42 rfl rfl ?_
      refine grX3_28 F dX3_readsOne_43 ?_
      rw [vm_RP]
      refine iX3_89 F dX3_readsOne_46 (c_hasSomebodyAt path11 (Nat.le_of_lt hn) _) (by decide) path11.1 rfl rfl (Nat.le_of_ble_eq_true rfl) (fun v_46 σ_46 h_46 => ?_)
      obtain ⟨rfl, rfl⟩ := h_46
      rw [← vm_RP]
      refine b_eq F 58 dX3_readsOne_49 (by decide) (fun c_49 => ?_) (fun c_49 => ?_)
      · have hdup : sF (fun p => decide (sp p = nI (qV tl tb (k + 2)))) n = sF (fun j => decide (qV tl tb (4 + 6 * j + 2) = qV tl tb (k + 2))) n := sF_congr (fun j hj => by
          obtain ⟨-, s2, -, -, -, -, s7, -, -, -, -⟩ := g9 j hj
          dsimp only [V_sp] at s2
          show decide (sp j = nI (qV tl tb (k + 2))) = decide (qV tl tb (4 + 6 * j + 2) = qV tl tb (k + 2))
          rw [s2]
          exact decide_eq_decide.mpr (nI_eq (sm_small s7 g7) (sm_small e7 g7)))
        rw [hdup] at c_49
        have c_49 := of_decide_eq_false c_49
        refine q_aload_n F 1 dX3_readsOne_58 rfl rfl ?_
        refine gpX3_92 F dX3_readsOne_59 path11 ?_
        refine q_iload_n F 2 dX3_readsOne_62 rfl rfl ?_
        refine q_aload_n F 0 dX3_readsOne_63 rfl rfl ?_
        refine grX3_28 F dX3_readsOne_64 ?_
        rw [vm_RP]
        refine sto_sp F dX3_readsOne_67 path11 hn ?_
        rw [← vm_RP]
        refine q_aload_n F 0 dX3_readsOne_68 rfl rfl ?_
        refine q_iconst F (nI 0) dX3_readsOne_69 (by decide) ?_
        refine q_iconst F (nI 1) dX3_readsOne_70 (by decide) ?_
        refine iX3_62 F dX3_readsOne_71 (t_readsNumber hT.P (k := k + 2) (k' := k + 3) rfl (lo := 0) (hi := 1) (by decide) (by decide)) (by decide) sh_2 rfl rfl (Nat.le_of_ble_eq_true rfl) (fun v_71 σ_71 h_71 => ?_)
        obtain ⟨t4, v4, hv0, hs0, e71⟩ := h_71
        obtain rfl := hv0.symm
        obtain rfl := hs0.symm
        clear hv0 hs0
        refine b_ne F 79 dX3_readsOne_74 (by decide) (fun c_74 => ?_) (fun c_74 => ?_)
        · have c_74 := of_decide_eq_true c_74
          obtain ⟨ev0, e10, e11⟩ := e71 c_74
          obtain rfl := ev0.symm
          clear ev0 e71
          refine q_aload_n F 1 dX3_readsOne_79 rfl rfl ?_
          refine gpX3_95 F dX3_readsOne_80 path11 ?_
          refine q_iload_n F 2 dX3_readsOne_83 rfl rfl ?_
          refine q_aload_n F 0 dX3_readsOne_84 rfl rfl ?_
          refine grX3_28 F dX3_readsOne_85 ?_
          refine q_top (.int (bI (decide (qV tl tb (k + 3) = 1)))) (congrArg Value.int (bit_I e11)) ?_
          rw [vm_RP]
          refine sto_wy F dX3_readsOne_88 path11 hn ?_
          refine q_aload_n F 0 dX3_readsOne_89 rfl rfl ?_
          refine q_aload_n F 1 dX3_readsOne_90 rfl rfl ?_
          refine gpX3_83 F dX3_readsOne_91 path11 ?_
          rw [← vm_RP]
          refine iX3_86 F dX3_readsOne_94 (t_readsSpot hT.P (k := k + 3) (k' := k + 4) rfl (top_small g7)) (by decide) sh_2 rfl rfl (Nat.le_of_ble_eq_true rfl) (fun v_94 σ_94 h_94 => ?_)
          obtain ⟨t5, v5, hv0, hs0, e94⟩ := h_94
          obtain rfl := hv0.symm
          obtain rfl := hs0.symm
          clear hv0 hs0
          refine b_ne F 102 dX3_readsOne_97 (by decide) (fun c_97 => ?_) (fun c_97 => ?_)
          · have c_97 := of_decide_eq_true c_97
            obtain ⟨ev0, e12, e13⟩ := e94 c_97
            obtain rfl := ev0.symm
            clear ev0 e94
            refine q_aload_n F 1 dX3_readsOne_102 rfl rfl ?_
            refine gpX3_98 F dX3_readsOne_103 path11 ?_
            refine q_iload_n F 2 dX3_readsOne_106 rfl rfl ?_
            refine q_aload_n F 0 dX3_readsOne_107 rfl rfl ?_
            refine grX3_28 F dX3_readsOne_108 ?_
            rw [vm_RP]
            refine sto_gl F dX3_readsOne_111 path11 hn ?_
            refine q_aload_n F 1 dX3_readsOne_112 rfl rfl ?_
            refine gpX3_101 F dX3_readsOne_113 path11 ?_
            refine q_iload_n F 2 dX3_readsOne_116 rfl rfl ?_
            refine q_iload_n F 2 dX3_readsOne_117 rfl rfl ?_
            refine sto_er F dX3_readsOne_118 path11 hn ?_
            refine q_aload_n F 1 dX3_readsOne_119 rfl rfl ?_
            refine q_iload_n F 2 dX3_readsOne_120 rfl rfl ?_
            refine q_iconst F (nI 1) dX3_readsOne_121 (by decide) ?_
            refine n_iadd F dX3_readsOne_122 ?_
            refine ppX3_104 F dX3_readsOne_123 path11 ?_
            rw [← vm_RP]
            refine q_aload_n F 0 dX3_readsOne_126 rfl rfl ?_
            refine iX3_70 F dX3_readsOne_127 (t_readsSign hT.P (k := k + 4) (k' := k + 5) rfl) (by decide) sh_2 rfl rfl (Nat.le_of_ble_eq_true rfl) (fun v_127 σ_127 h_127 => ?_)
            obtain ⟨t6, v6, hv0, hs0⟩ := h_127
            obtain rfl := hv0.symm
            obtain rfl := hs0.symm
            clear hv0 hs0
            refine K _ _ _ _ ?_ dX3_readsOne_130 (nI_bool _)
            have e9 : rOne tl tb n k = ((if tTy tl tb (tQ tl tb (k + 5)) = 3 then 0 else 1), k + 5) := by rw [rOne, if_neg c0, if_pos c_36, if_neg c_49, if_pos c_74, if_pos c_97]
            rw [e9]
            dsimp only
            clear e9
            refine ⟨_, _, _, _, _, _, rfl, ?_, vm_u_lt hK qK_lt, fun z => ⟨⟨rfl, rfl, rfl, rfl, rfl, g6, g7, g8, fun j hj => ?_⟩, rfl⟩, fun z => ⟨rfl, ?_⟩⟩
            · by_cases h : tTy tl tb (tQ tl tb (k + 5)) = 3 <;> simp [h]
            · dsimp only [V_kd, V_sp, V_wy, V_gl, V_er]
              rcases Nat.lt_or_ge j n with q | q
              · have ej : j ≠ n := Nat.ne_of_lt q
                rw [vm_u_n ej, vm_u_n ej, vm_u_n ej, vm_u_n ej, vm_u_n ej]
                exact g9 j q
              · have ej : j = n := Nat.le_antisymm (Nat.le_of_lt_succ hj) q
                subst ej
                rw [vm_u_s, vm_u_s, vm_u_s, vm_u_s, vm_u_s, ← hk]
                refine ⟨rfl, rfl, rfl, rfl, rfl, c0, e7, e8, e12, e13, fun i hi z => ?_⟩
                have h2 := sF_all c_49 hi
                rw [z, decide_eq_true rfl] at h2
                exact Bool.noConfusion h2
            · by_cases h : tTy tl tb (tQ tl tb (k + 5)) = 3
              · simp [h] at z
              · simp [h]
          · have c_97 := of_decide_eq_false c_97
            refine q_iconst F (nI 0) dX3_readsOne_100 (by decide) ?_
            refine K _ _ _ _ ?_ dX3_readsOne_101 (by decide)
            have e9 : rOne tl tb n k = (rSpt tl tb (tQ tl tb (k + 4)) (2 * qV tl tb 1), k + 4) := by rw [rOne, if_neg c0, if_pos c_36, if_neg c_49, if_pos c_74, if_neg c_97]
            rw [e9]
            dsimp only
            clear e9
            exact ⟨_, _, _, _, _, _, rfl, by simp [c_97, bI, nI_0], vm_u_lt hK qK_lt, fun z => absurd z c_97, fun _ => ⟨rfl, by simp only [rFlt, if_neg c_97]⟩⟩
        · have c_74 := of_decide_eq_false c_74
          refine q_iconst F (nI 0) dX3_readsOne_77 (by decide) ?_
          refine K _ _ _ _ ?_ dX3_readsOne_78 (by decide)
          have e9 : rOne tl tb n k = (rNum tl tb (tQ tl tb (k + 3)) 0 1, k + 3) := by rw [rOne, if_neg c0, if_pos c_36, if_neg c_49, if_neg c_74]
          rw [e9]
          dsimp only
          clear e9
          exact ⟨_, _, _, _, _, _, rfl, by simp [c_74, bI, nI_0], vm_u_lt hK qK_lt, fun z => absurd z c_74, fun _ => ⟨rfl, by simp only [rFlt, if_neg c_74]⟩⟩
      · have hdup : sF (fun p => decide (sp p = nI (qV tl tb (k + 2)))) n = sF (fun j => decide (qV tl tb (4 + 6 * j + 2) = qV tl tb (k + 2))) n := sF_congr (fun j hj => by
          obtain ⟨-, s2, -, -, -, -, s7, -, -, -, -⟩ := g9 j hj
          dsimp only [V_sp] at s2
          show decide (sp j = nI (qV tl tb (k + 2))) = decide (qV tl tb (4 + 6 * j + 2) = qV tl tb (k + 2))
          rw [s2]
          exact decide_eq_decide.mpr (nI_eq (sm_small s7 g7) (sm_small e7 g7)))
        rw [hdup] at c_49
        have c_49 := of_decide_eq_true c_49
        refine q_aload_n F 0 dX3_readsOne_52 rfl rfl ?_
        refine q_iconst F (nI 2) dX3_readsOne_53 (by decide) ?_
        refine iX3_47 F dX3_readsOne_54 (c_hasFault) (by decide) sh_2 rfl rfl (Nat.le_of_ble_eq_true rfl) (fun v_54 σ_54 h_54 => ?_)
        obtain ⟨rfl, rfl⟩ := h_54
        refine K _ _ _ _ ?_ dX3_readsOne_57 (by decide)
        have e9 : rOne tl tb n k = (2, k + 2) := by rw [rOne, if_neg c0, if_pos c_36, if_pos c_49]
        rw [e9]
        dsimp only
        clear e9
        exact ⟨_, _, _, _, _, _, rfl, by simp [bI, nI_0], vm_u_lt hK qK_lt, fun z => absurd z (by simp), fun _ => ⟨rfl, rfl⟩⟩
    · have c_36 := of_decide_eq_false c_36
      refine q_iconst F (nI 0) dX3_readsOne_39 (by decide) ?_
      refine K _ _ _ _ ?_ dX3_readsOne_40 (by decide)
      have e9 : rOne tl tb n k = (rSpt tl tb (tQ tl tb (k + 2)) (2 * qV tl tb 1), k + 2) := by rw [rOne, if_neg c0, if_neg c_36]
      rw [e9]
      dsimp only
      clear e9
      exact ⟨_, _, _, _, _, _, rfl, by simp [c_36, bI, nI_0], vm_u_lt hK qK_lt, fun z => absurd z c_36, fun _ => ⟨rfl, by simp only [rFlt, if_neg c_36]⟩⟩
  · have c0 : qK tl tb (k + 1) = 0 := by
      refine Classical.byContradiction fun z => ?_
      rw [if_neg z] at c_12
      exact nI_ne_none qK_lt c_12
    refine q_aload_n F 0 dX3_readsOne_15 rfl rfl ?_
    refine q_iconst F (nI 1) dX3_readsOne_16 (by decide) ?_
    refine iX3_47 F dX3_readsOne_17 (c_hasFault) (by decide) sh_2 rfl rfl (Nat.le_of_ble_eq_true rfl) (fun v_17 σ_17 h_17 => ?_)
    obtain ⟨rfl, rfl⟩ := h_17
    refine K _ _ _ _ ?_ dX3_readsOne_20 (by decide)
    have e9 : rOne tl tb n k = (1, k + 1) := by rw [rOne, if_pos c0]
    rw [e9]
    dsimp only
    clear e9
    exact ⟨_, _, _, _, _, _, rfl, by simp [bI, nI_0], hK, fun z => absurd z (by simp), fun _ => ⟨rfl, rfl⟩⟩
