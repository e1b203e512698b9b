theorem sF_congr {f g : Nat → Bool} : ∀ {m : Nat}, (∀ p, p < m → f p = g p) → sF f m = sF g m
  | 0, _ => rfl
  | m + 1, h => by
    unfold sF
    rw [sF_congr (m := m) (fun p hp => h p (by omega)), h m (by omega)]
theorem sFit_le (f : Nat → Bool) : ∀ s, (sFit f s).1 ≤ s
  | 0 => Nat.le_refl 0
  | s + 1 => by
    have := sFit_le f s
    unfold sFit
    split
    · show (sFit f s).1 + 1 ≤ s + 1; omega
    · omega
def fz (σ σ2 : vm_M) : Prop := ∀ o, ¬ (17 ≤ o ∧ o ≤ 22) → o ≠ 173 → σ2 o = σ o
theorem sOut_n (s : Nat) (v : vm_V) : V_n (sOut s v) = V_n v := rfl
theorem sFit_t {f : Nat → Bool} {s : Nat} (h : f s = true) : sFit f (s + 1) = ((sFit f s).1 + 1, if (sFit f s).1 = 0 then nI s else (sFit f s).2) := by rw [sFit, if_pos h]
theorem sFit_f {f : Nat → Bool} {s : Nat} (h : f s = false) : sFit f (s + 1) = sFit f s := by rw [sFit, if_neg (by simp [h])]
set_option maxHeartbeats 4000000 in
set_option maxRecDepth 100000 in
theorem k_clean {G : vm_G} {σ : vm_M} {T : vm_T} (hC : CInv σ T) (hI : SInv T) (e x n w : Int32) : vm_RI G 4 mX7_clean [.ref 0, .int e, .int x, .int n, .int w] σ (cPost σ (aClean T e x n w)) := by
  refine vm_int (y := mX7_clean) (by decide) (Nat.le_of_ble_eq_true rfl) (ls0 := [some (.ref 0), some (.int e), some (.int x), some (.int n), some (.int w), none]) rfl rfl (fun C F K => ?_)
  have F : vm_F G C cX7_clean RX7 6 _ := F
  show vm_Ex G C 6 0 [some (.ref 0), some (.int e), some (.int x), some (.int n), some (.int w), none] [] _
  obtain ⟨hRows, hTape, hNow, hPast, hImg, hTr, hFlt, hFnd, hDr⟩ := id hC
  have hN := hNow.2
  have hOk : sOk (T_nw T) := hI.1.1
  have hn6 : V_n (T_nw T) ≤ 6 := hOk.1
  refine q_iload_n F 1 dX7_clean_0 rfl rfl ?_
  refine q_aload_n F 0 dX7_clean_1 rfl rfl ?_
  refine gX7_25 F dX7_clean_2 sh_0 rfl ?_
  refine gX7_149 F dX7_clean_5 path5.1 rfl ?_
  refine q_top (.int (nI (V_n (T_nw T)))) (congrArg Value.int (hN.n)) ?_
  refine iX7_76 F dX7_clean_8 (c_isWithin e (by omega)) (by decide) rfl rfl (Nat.le_of_ble_eq_true rfl) (fun v_8 σ_8 h_8 => ?_)
  obtain ⟨rfl, rfl⟩ := h_8
  refine b_eq F 44 dX7_clean_11 (by decide) (fun c_11 => ?_) (fun c_11 => ?_)
  · refine q_ldc F dX7_clean_44 wX7_80 ?_
    refine K _ _ _ _ ?_ dX7_clean_46 rfl
    have e : aClean T e x n w = (sBAD, T) := by
      simp [aClean, c_11]
    rw [e]
    exact ⟨rfl, hC, fun _ _ => rfl⟩
  · obtain ⟨j, hj, rfl⟩ := wi_of c_11
    have hx := xN_nI (show j < 2 ^ 31 by omega)
    have hN64 := pow6 hn6
    obtain ⟨N, hNN⟩ : ∃ N, N = 2 ^ V_n (T_nw T) := ⟨_, rfl⟩
    rw [← hNN] at hN64
    refine q_iload_n F 2 dX7_clean_14 rfl rfl ?_
    refine q_aload_n F 0 dX7_clean_15 rfl rfl ?_
    refine gX7_25 F dX7_clean_16 sh_0 rfl ?_
    refine iX7_197 F dX7_clean_19 (d_sets hN path5 hOk) (by decide) path5.1 rfl rfl (Nat.le_of_ble_eq_true rfl) (fun v_19 σ_19 h_19 => ?_)
    obtain ⟨rfl, rfl⟩ := h_19
    refine q_top (.int (nI N)) (congrArg Value.int (by rw [hNN])) ?_
    refine iX7_76 F dX7_clean_22 (c_isWithin x (by omega)) (by decide) rfl rfl (Nat.le_of_ble_eq_true rfl) (fun v_22 σ_22 h_22 => ?_)
    obtain ⟨rfl, rfl⟩ := h_22
    refine b_eq F 44 dX7_clean_25 (by decide) (fun c_25 => ?_) (fun c_25 => ?_)
    · refine q_ldc F dX7_clean_44 wX7_80 ?_
      refine K _ _ _ _ ?_ dX7_clean_46 rfl
      have e : aClean T (nI j) x n w = (sBAD, T) := by
        simp [aClean, ← hNN, c_25]
      rw [e]
      exact ⟨rfl, hC, fun _ _ => rfl⟩
    · have c_25 : wi x (2 ^ V_n (T_nw T)) = true := by rw [← hNN]; exact c_25
      obtain ⟨q, hq, rfl⟩ := wi_of c_25
      refine q_iload_n F 3 dX7_clean_28 rfl rfl ?_
      refine iX7_182 F dX7_clean_29 (c_isForetold n) (by decide) rfl rfl (Nat.le_of_ble_eq_true rfl) (fun v_29 σ_29 h_29 => ?_)
      obtain ⟨rfl, rfl⟩ := h_29
      refine b_eq F 44 dX7_clean_32 (by decide) (fun c_32 => ?_) (fun c_32 => ?_)
      · refine q_ldc F dX7_clean_44 wX7_80 ?_
        refine K _ _ _ _ ?_ dX7_clean_46 rfl
        have e : aClean T (nI j) (nI q) n w = (sBAD, T) := by
          simp [aClean, c_32]
        rw [e]
        exact ⟨rfl, hC, fun _ _ => rfl⟩
      · obtain ⟨m, hm, rfl⟩ := wi_of c_32
        have hxm := xN_nI (show m < 2 ^ 31 by omega)
        refine q_iload F 4 dX7_clean_35 rfl ?_
        refine q_iconst F (nI 2) dX7_clean_37 (by decide) ?_
        refine iX7_76 F dX7_clean_38 (c_isWithin w (by decide)) (by decide) rfl rfl (Nat.le_of_ble_eq_true rfl) (fun v_38 σ_38 h_38 => ?_)
        obtain ⟨rfl, rfl⟩ := h_38
        refine b_ne F 47 dX7_clean_41 (by decide) (fun c_41 => ?_) (fun c_41 => ?_)
        · obtain ⟨w1, hw1, rfl⟩ := wi_of c_41
          refine q_aload_n F 0 dX7_clean_47 rfl rfl ?_
          refine gX7_60 F dX7_clean_48 sh_0 rfl ?_
          refine iX7_204 F dX7_clean_51 (c_fclear) (by decide) sh_173 rfl rfl (Nat.le_of_ble_eq_true rfl) (fun σ_51 h_51 => ?_)
          subst h_51
          refine q_iconst F (nI 0) dX7_clean_54 (by decide) ?_
          refine q_istore5 F dX7_clean_55 (by decide) rfl ?_
          have L : ∀ k s, ∀ σ2 : vm_M, fz σ_38 σ2 → σ2 173 0 = nI (sFit (fun s => sCan (V_kd (T_nw T)) (V_n (T_nw T)) s && decide (sS j (sOut s (T_nw T)) m &&& nI q = nI 0)) s).1 → σ2 173 1 = (sFit (fun s => sCan (V_kd (T_nw T)) (V_n (T_nw T)) s && decide (sS j (sOut s (T_nw T)) m &&& nI q = nI 0)) s).2 → s + k = N → vm_Ex G C 6 57 [some (.ref 0), some (.int (nI j)), some (.int (nI q)), some (.int (nI m)), some (.int (nI w1)), some (.int (nI s))] [] σ2 := by
            intro k
            induction k with
            | zero =>
              intro s σ2 g0 g1 g2 hi
              refine q_iload F 5 dX7_clean_57 rfl ?_
              refine q_aload_n F 0 dX7_clean_59 rfl rfl ?_
              refine gX7_25 F dX7_clean_60 sh_0 rfl ?_
              refine iX7_197 F dX7_clean_63 (d_sets (hN.fr (fun o a b => g0 o (by omega) (by omega))) path5 hOk) (by decide) path5.1 rfl rfl (Nat.le_of_ble_eq_true rfl) (fun v_63 σ_63 h_63 => ?_)
              obtain ⟨rfl, rfl⟩ := h_63
              refine q_top (.int (nI N)) (congrArg Value.int (by rw [hNN])) ?_
              refine n_ge F 107 dX7_clean_66 (by decide) (by omega) (by omega) (fun c_66 => ?_) (fun c_66 => ?_)
              · refine q_aload_n F 0 dX7_clean_107 rfl rfl ?_
                refine gX7_60 F dX7_clean_108 sh_0 rfl ?_
                refine q_iload F 4 dX7_clean_111 rfl ?_
                refine iX7_208 F dX7_clean_113 (c_ftell (nI w1)) (by decide) sh_173 rfl rfl (Nat.le_of_ble_eq_true rfl) (fun v_113 σ_113 h_113 => ?_)
                obtain ⟨rfl, rfl⟩ := h_113
                refine K _ _ _ _ ?_ dX7_clean_116 rfl
                have c25 : wi (nI q) N = true := by rw [hNN]; exact c_25
                have e : aClean T (nI j) (nI q) (nI m) (nI w1) = (sTold (sFit (fun s => sCan (V_kd (T_nw T)) (V_n (T_nw T)) s && decide (sS j (sOut s (T_nw T)) m &&& nI q = nI 0)) N) (nI w1), T) := by
                  unfold aClean
                  rw [hx, hxm, ← hNN, if_neg (by simp [c_11, c25, c_32, c_41])]
                rw [e]
                exact ⟨by rw [show s = N by omega] at g1 g2; unfold sTold; rw [g1, g2, nI_0], hC.fr (fun o a b c d => g0 o (by omega) (by omega)), fun o ho => g0 o (by omega) (by omega)⟩
              · omega
            | succ k ih =>
              intro s σ2 g0 g1 g2 hi
              refine q_iload F 5 dX7_clean_57 rfl ?_
              refine q_aload_n F 0 dX7_clean_59 rfl rfl ?_
              refine gX7_25 F dX7_clean_60 sh_0 rfl ?_
              refine iX7_197 F dX7_clean_63 (d_sets (hN.fr (fun o a b => g0 o (by omega) (by omega))) path5 hOk) (by decide) path5.1 rfl rfl (Nat.le_of_ble_eq_true rfl) (fun v_63 σ_63 h_63 => ?_)
              obtain ⟨rfl, rfl⟩ := h_63
              refine q_top (.int (nI N)) (congrArg Value.int (by rw [hNN])) ?_
              refine n_ge F 107 dX7_clean_66 (by decide) (by omega) (by omega) (fun c_66 => ?_) (fun c_66 => ?_)
              · omega
              · refine q_aload_n F 0 dX7_clean_69 rfl rfl ?_
                refine q_iload F 5 dX7_clean_70 rfl ?_
                refine iX7_201 F dX7_clean_72 (c_trial (hN.fr (fun o a b => g0 o (by omega) (by omega))) hOk (by omega)) (by decide) sh_0 rfl rfl (Nat.le_of_ble_eq_true rfl) (fun v_72 σ_72 h_72 => ?_)
                obtain ⟨rfl, h72⟩ := h_72
                refine b_eq F 101 dX7_clean_75 (by decide) (fun c_75 => ?_) (fun c_75 => ?_)
                · rw [c_75] at h72
                  simp only [Bool.false_eq_true, if_false] at h72
                  subst h72
                  have hf : (fun s => sCan (V_kd (T_nw T)) (V_n (T_nw T)) s && decide (sS j (sOut s (T_nw T)) m &&& nI q = nI 0)) s = false := by simp [c_75]
                  rw [← sFit_f hf] at g1 g2
                  refine q_iinc5 F _ dX7_clean_101 (nI_inc _) (by decide) rfl ?_
                  refine q_goto F 57 dX7_clean_104 (by decide) ?_
                  exact ih (s + 1) σ_72 g0 g1 g2 (by omega)
                · rw [c_75] at h72
                  simp only [if_true] at h72
                  subst h72
                  refine q_aload_n F 0 dX7_clean_78 rfl rfl ?_
                  refine gX7_32 F dX7_clean_79 sh_0 rfl ?_
                  refine q_iload_n F 1 dX7_clean_82 rfl rfl ?_
                  refine q_iload_n F 3 dX7_clean_83 rfl rfl ?_
                  refine iX7_194 F dX7_clean_84 (c_holdersAhead path17 (sOk_Out hOk s) (show j < V_n (sOut s (T_nw T)) from hj) (by omega)) (by decide) path17.1 rfl rfl (Nat.le_of_ble_eq_true rfl) (fun v_84 σ_84 h_84 => ?_)
                  obtain ⟨rfl, rfl⟩ := h_84
                  refine q_iload_n F 2 dX7_clean_87 rfl rfl ?_
                  refine q_iand F dX7_clean_88 ?_
                  refine q_if_ne F 101 dX7_clean_89 (by decide) (fun c_89 => ?_) (fun c_89 => ?_)
                  · have hf : (fun s => sCan (V_kd (T_nw T)) (V_n (T_nw T)) s && decide (sS j (sOut s (T_nw T)) m &&& nI q = nI 0)) s = false := by
                      have h0 : ¬ sS j (sOut s (T_nw T)) m &&& nI q = nI 0 := by rw [nI_0]; exact c_89
                      simp [h0]
                    rw [← sFit_f hf] at g1 g2
                    refine q_iinc5 F _ dX7_clean_101 (nI_inc _) (by decide) rfl ?_
                    refine q_goto F 57 dX7_clean_104 (by decide) ?_
                    exact ih (s + 1) _ (fun o a b => by rw [vm_P_out (by omega)]; exact g0 o a b) (by rw [vm_P_out (by omega)]; exact g1) (by rw [vm_P_out (by omega)]; exact g2) (by omega)
                  · have hf : (fun s => sCan (V_kd (T_nw T)) (V_n (T_nw T)) s && decide (sS j (sOut s (T_nw T)) m &&& nI q = nI 0)) s = true := by
                      have h0 : sS j (sOut s (T_nw T)) m &&& nI q = nI 0 := by rw [nI_0]; exact c_89
                      simp [h0, c_75]
                    have hT := sFit_t (f := (fun s => sCan (V_kd (T_nw T)) (V_n (T_nw T)) s && decide (sS j (sOut s (T_nw T)) m &&& nI q = nI 0))) (s := s) hf
                    refine q_aload_n F 0 dX7_clean_92 rfl rfl ?_
                    refine gX7_60 F dX7_clean_93 sh_0 rfl ?_
                    refine q_iload F 5 dX7_clean_96 rfl ?_
                    refine iX7_205 F dX7_clean_98 (c_fadd (m := (sFit (fun s => sCan (V_kd (T_nw T)) (V_n (T_nw T)) s && decide (sS j (sOut s (T_nw T)) m &&& nI q = nI 0)) s).1) (by have := sFit_le (fun s => sCan (V_kd (T_nw T)) (V_n (T_nw T)) s && decide (sS j (sOut s (T_nw T)) m &&& nI q = nI 0)) s; omega) (by rw [vm_P_out (by omega)]; exact g1) (nI s)) (by decide) sh_173 rfl rfl (Nat.le_of_ble_eq_true rfl) (fun σ_98 h_98 => ?_)
                    obtain ⟨a1, a2, a3⟩ := h_98
                    refine q_iinc5 F _ dX7_clean_101 (nI_inc _) (by decide) rfl ?_
                    refine q_goto F 57 dX7_clean_104 (by decide) ?_
                    exact ih (s + 1) _ (fun o a b => by rw [a3 o b, vm_P_out (by omega)]; exact g0 o a b) (by rw [hT]; exact a1) (by rw [hT, a2, vm_P_out (by omega), g2]) (by omega)
          exact L N 0 _ (fun o a b => by rw [vm_upd_n _ _ _ b, vm_upd_n _ _ _ b]) (by simp [vm_upd, upd, sFit]) (by simp [vm_upd, upd, sFit, sNONE]) (by omega)
        · refine q_ldc F dX7_clean_44 wX7_80 ?_
          refine K _ _ _ _ ?_ dX7_clean_46 rfl
          have e : aClean T (nI j) (nI q) (nI m) w = (sBAD, T) := by
            simp [aClean, c_41]
          rw [e]
          exact ⟨rfl, hC, fun _ _ => rfl⟩
set_option maxHeartbeats 4000000 in
set_option maxRecDepth 100000 in
theorem k_began {G : vm_G} {σ : vm_M} {T : vm_T} (hC : CInv σ T) (hI : SInv T) (r n w : Int32) : vm_RI G 4 mX7_began [.ref 0, .int r, .int n, .int w] σ (cPost σ (aBegan T r n w)) := by
  refine vm_int (y := mX7_began) (by decide) (Nat.le_of_ble_eq_true rfl) (ls0 := [some (.ref 0), some (.int r), some (.int n), some (.int w), none, none]) rfl rfl (fun C F K => ?_)
  have F : vm_F G C cX7_began RX7 6 _ := F
  show vm_Ex G C 6 0 [some (.ref 0), some (.int r), some (.int n), some (.int w), none, none] [] _
  obtain ⟨hRows, hTape, hNow, hPast, hImg, hTr, hFlt, hFnd, hDr⟩ := id hC
  have hN := hNow.2
  have hOk : sOk (T_nw T) := hI.1.1
  have hn6 : V_n (T_nw T) ≤ 6 := hOk.1
  refine q_aload_n F 0 dX7_began_0 rfl rfl ?_
  refine gX7_64 F dX7_began_1 sh_0 rfl ?_
  refine q_top (.int (bI (T_hp T))) (congrArg Value.int (hNow.1)) ?_
  refine b_ne F 10 dX7_began_4 (by decide) (fun c_4 => ?_) (fun c_4 => ?_)
  · refine q_iload_n F 1 dX7_began_10 rfl rfl ?_
    refine q_bipush F (nI 8) dX7_began_11 (by decide) ?_
    refine iX7_76 F dX7_began_13 (c_isWithin r (by decide)) (by decide) rfl rfl (Nat.le_of_ble_eq_true rfl) (fun v_13 σ_13 h_13 => ?_)
    obtain ⟨rfl, rfl⟩ := h_13
    refine b_eq F 34 dX7_began_16 (by decide) (fun c_16 => ?_) (fun c_16 => ?_)
    · refine q_ldc F dX7_began_34 wX7_80 ?_
      refine K _ _ _ _ ?_ dX7_began_36 rfl
      have e : aBegan T r n w = (sBAD, T) := by
        simp [aBegan, c_4, c_16]
      rw [e]
      exact ⟨rfl, hC, fun _ _ => rfl⟩
    · obtain ⟨j, hj, rfl⟩ := wi_of c_16
      have hrj := hRows j hj
      have hx := xN_nI (show j < 2 ^ 31 by omega)
      refine q_iload_n F 2 dX7_began_19 rfl rfl ?_
      refine iX7_182 F dX7_began_20 (c_isForetold n) (by decide) rfl rfl (Nat.le_of_ble_eq_true rfl) (fun v_20 σ_20 h_20 => ?_)
      obtain ⟨rfl, rfl⟩ := h_20
      refine b_eq F 34 dX7_began_23 (by decide) (fun c_23 => ?_) (fun c_23 => ?_)
      · refine q_ldc F dX7_began_34 wX7_80 ?_
        refine K _ _ _ _ ?_ dX7_began_36 rfl
        have e : aBegan T (nI j) n w = (sBAD, T) := by
          simp [aBegan, c_4, c_23]
        rw [e]
        exact ⟨rfl, hC, fun _ _ => rfl⟩
      · obtain ⟨m, hm, rfl⟩ := wi_of c_23
        have hxm := xN_nI (show m < 2 ^ 31 by omega)
        refine q_iload_n F 3 dX7_began_26 rfl rfl ?_
        refine q_iconst F (nI 2) dX7_began_27 (by decide) ?_
        refine iX7_76 F dX7_began_28 (c_isWithin w (by decide)) (by decide) rfl rfl (Nat.le_of_ble_eq_true rfl) (fun v_28 σ_28 h_28 => ?_)
        obtain ⟨rfl, rfl⟩ := h_28
        refine b_ne F 37 dX7_began_31 (by decide) (fun c_31 => ?_) (fun c_31 => ?_)
        · obtain ⟨w1, hw1, rfl⟩ := wi_of c_31
          refine q_aload_n F 0 dX7_began_37 rfl rfl ?_
          refine gX7_11 F dX7_began_38 sh_0 rfl ?_
          refine q_iload_n F 1 dX7_began_41 rfl rfl ?_
          refine q_aald (r := 174 + 2 * j) F dX7_began_42 sh_1 (by decide) hj (by decide) (by simp [hj]) ?_
          refine q_astore4 F dX7_began_43 (by decide) rfl ?_
          refine q_aload F 4 dX7_began_45 rfl ?_
          refine gX7_92 F dX7_began_47 (vm_rows j hj).1 rfl ?_
          refine q_top (.int (bI (decide (T_rl T j ≠ 0)))) (congrArg Value.int (hrj.2.1)) ?_
          refine b_ne F 59 dX7_began_50 (by decide) (fun c_50 => ?_) (fun c_50 => ?_)
          · have c0 : ¬ T_rl T j = 0 := by simpa using c_50
            obtain ⟨hlane, hlen, h40, hit⟩ := hrj.2.2 c0
            refine q_aload F 4 dX7_began_59 rfl ?_
            refine gX7_95 F dX7_began_61 (vm_rows j hj).1 rfl ?_
            refine q_top (.int (nI (T_rn T j))) (congrArg Value.int (hlen)) ?_
            refine q_aload_n F 0 dX7_began_64 rfl rfl ?_
            refine gX7_25 F dX7_began_65 sh_0 rfl ?_
            refine gX7_149 F dX7_began_68 path5.1 rfl ?_
            refine q_top (.int (nI (V_n (T_nw T)))) (congrArg Value.int (hN.n)) ?_
            refine n_ge F 80 dX7_began_71 (by decide) (by omega) (by omega) (fun c_71 => ?_) (fun c_71 => ?_)
            · refine q_aload F 4 dX7_began_80 rfl ?_
              refine q_aload_n F 0 dX7_began_82 rfl rfl ?_
              refine gX7_25 F dX7_began_83 sh_0 rfl ?_
              refine gX7_149 F dX7_began_86 path5.1 rfl ?_
              refine q_top (.int (nI (V_n (T_nw T)))) (congrArg Value.int (hN.n)) ?_
              refine iX7_216 F dX7_began_89 (c_isAllBelow (vm_rows j hj) (by omega)) (by decide) (vm_rows j hj).1 rfl rfl (Nat.le_of_ble_eq_true rfl) (fun v_89 σ_89 h_89 => ?_)
              obtain ⟨rfl, rfl⟩ := h_89
              refine q_top (.int (bI (sAll (fun p => wi (T_ri T j p) (V_n (T_nw T))) (V_n (T_nw T))))) (congrArg Value.int (by
    unfold sAll
    rw [sF_congr (fun p hp => by rw [hit p (by omega)])])) ?_
              refine b_ne F 98 dX7_began_92 (by decide) (fun c_92 => ?_) (fun c_92 => ?_)
              · have hall := c_92
                have hN64 := pow6 hn6
                obtain ⟨N, hNN⟩ : ∃ N, N = 2 ^ V_n (T_nw T) := ⟨_, rfl⟩
                rw [← hNN] at hN64
                refine q_aload_n F 0 dX7_began_98 rfl rfl ?_
                refine gX7_60 F dX7_began_99 sh_0 rfl ?_
                refine iX7_204 F dX7_began_102 (c_fclear) (by decide) sh_173 rfl rfl (Nat.le_of_ble_eq_true rfl) (fun σ_102 h_102 => ?_)
                subst h_102
                refine q_iconst F (nI 0) dX7_began_105 (by decide) ?_
                refine q_istore5 F dX7_began_106 (by decide) rfl ?_
                have L : ∀ k s, ∀ σ2 : vm_M, fz σ_89 σ2 → σ2 173 0 = nI (sFit (fun s => sCan (V_kd (T_nw T)) (V_n (T_nw T)) s && sAll (fun p => decide (nI (V_er (sHs m (sOut s (T_nw T))) p) = T_ri T j p)) (V_n (T_nw T))) s).1 → σ2 173 1 = (sFit (fun s => sCan (V_kd (T_nw T)) (V_n (T_nw T)) s && sAll (fun p => decide (nI (V_er (sHs m (sOut s (T_nw T))) p) = T_ri T j p)) (V_n (T_nw T))) s).2 → s + k = N → vm_Ex G C 6 108 [some (.ref 0), some (.int (nI j)), some (.int (nI m)), some (.int (nI w1)), some (.ref (174 + 2 * j)), some (.int (nI s))] [] σ2 := by
                  intro k
                  induction k with
                  | zero =>
                    intro s σ2 g0 g1 g2 hi
                    refine q_iload F 5 dX7_began_108 rfl ?_
                    refine q_aload_n F 0 dX7_began_110 rfl rfl ?_
                    refine gX7_25 F dX7_began_111 sh_0 rfl ?_
                    refine iX7_197 F dX7_began_114 (d_sets (hN.fr (fun o a b => g0 o (by omega) (by omega))) path5 hOk) (by decide) path5.1 rfl rfl (Nat.le_of_ble_eq_true rfl) (fun v_114 σ_114 h_114 => ?_)
                    obtain ⟨rfl, rfl⟩ := h_114
                    refine q_top (.int (nI N)) (congrArg Value.int (by rw [hNN])) ?_
                    refine n_ge F 164 dX7_began_117 (by decide) (by omega) (by omega) (fun c_117 => ?_) (fun c_117 => ?_)
                    · refine q_aload_n F 0 dX7_began_164 rfl rfl ?_
                      refine q_aload_n F 0 dX7_began_165 rfl rfl ?_
                      refine gX7_60 F dX7_began_166 sh_0 rfl ?_
                      refine q_iload_n F 3 dX7_began_169 rfl rfl ?_
                      refine iX7_208 F dX7_began_170 (c_ftell (nI w1)) (by decide) sh_173 rfl rfl (Nat.le_of_ble_eq_true rfl) (fun v_170 σ_170 h_170 => ?_)
                      obtain ⟨rfl, rfl⟩ := h_170
                      refine iX7_89 F dX7_began_173 (c_foundNone _) (by decide) sh_0 rfl rfl (Nat.le_of_ble_eq_true rfl) (fun v_173 σ_173 h_173 => ?_)
                      obtain ⟨rfl, rfl⟩ := h_173
                      refine K _ _ _ _ ?_ dX7_began_176 rfl
                      have e : aBegan T (nI j) (nI m) (nI w1) = (sTold (sFit (fun s => sCan (V_kd (T_nw T)) (V_n (T_nw T)) s && sAll (fun p => decide (nI (V_er (sHs m (sOut s (T_nw T))) p) = T_ri T j p)) (V_n (T_nw T))) N) (nI w1), sT_fnd T (nI 0)) := by
                        unfold aBegan
                        rw [hx, hxm, ← hNN, if_neg (by simp [c_4]), if_neg (by simp [c_16, c_23, c_31]), if_neg c0, if_neg (by omega), if_neg (by simp [hall])]
                      rw [e]
                      exact ⟨by rw [show s = N by omega] at g1 g2; unfold sTold; rw [g1, g2, nI_0], (hC.fr (fun o a b c d => g0 o (by omega) (by omega))).fnd _, fun o ho => by rw [vm_upd_n _ _ _ (by omega)]; exact g0 o (by omega) (by omega)⟩
                    · omega
                  | succ k ih =>
                    intro s σ2 g0 g1 g2 hi
                    refine q_iload F 5 dX7_began_108 rfl ?_
                    refine q_aload_n F 0 dX7_began_110 rfl rfl ?_
                    refine gX7_25 F dX7_began_111 sh_0 rfl ?_
                    refine iX7_197 F dX7_began_114 (d_sets (hN.fr (fun o a b => g0 o (by omega) (by omega))) path5 hOk) (by decide) path5.1 rfl rfl (Nat.le_of_ble_eq_true rfl) (fun v_114 σ_114 h_114 => ?_)
                    obtain ⟨rfl, rfl⟩ := h_114
                    refine q_top (.int (nI N)) (congrArg Value.int (by rw [hNN])) ?_
                    refine n_ge F 164 dX7_began_117 (by decide) (by omega) (by omega) (fun c_117 => ?_) (fun c_117 => ?_)
                    · omega
                    · refine q_aload_n F 0 dX7_began_120 rfl rfl ?_
                      refine q_iload F 5 dX7_began_121 rfl ?_
                      refine iX7_201 F dX7_began_123 (c_trial (hN.fr (fun o a b => g0 o (by omega) (by omega))) hOk (by omega)) (by decide) sh_0 rfl rfl (Nat.le_of_ble_eq_true rfl) (fun v_123 σ_123 h_123 => ?_)
                      obtain ⟨rfl, h72⟩ := h_123
                      refine b_eq F 158 dX7_began_126 (by decide) (fun c_126 => ?_) (fun c_126 => ?_)
                      · rw [c_126] at h72
                        simp only [Bool.false_eq_true, if_false] at h72
                        subst h72
                        have hf : (fun s => sCan (V_kd (T_nw T)) (V_n (T_nw T)) s && sAll (fun p => decide (nI (V_er (sHs m (sOut s (T_nw T))) p) = T_ri T j p)) (V_n (T_nw T))) s = false := by simp [c_126]
                        rw [← sFit_f hf] at g1 g2
                        refine q_iinc5 F _ dX7_began_158 (nI_inc _) (by decide) rfl ?_
                        refine q_goto F 108 dX7_began_161 (by decide) ?_
                        exact ih (s + 1) σ_123 g0 g1 g2 (by omega)
                      · rw [c_126] at h72
                        simp only [if_true] at h72
                        subst h72
                        refine q_aload_n F 0 dX7_began_129 rfl rfl ?_
                        refine gX7_32 F dX7_began_130 sh_0 rfl ?_
                        refine q_iload_n F 2 dX7_began_133 rfl rfl ?_
                        refine iX7_186 F dX7_began_134 (c_goHalves path17 (sOk_Out hOk s) (by omega)) (by decide) path17.1 rfl rfl (Nat.le_of_ble_eq_true rfl) (fun σ_134 h_134 => ?_)
                        subst h_134
                        refine q_aload_n F 0 dX7_began_137 rfl rfl ?_
                        refine gX7_32 F dX7_began_138 sh_0 rfl ?_
                        refine q_aload F 4 dX7_began_141 rfl ?_
                        refine iX7_219 F dX7_began_143 (c_isCarriedAs path17 (sOk_Hs (sOk_Out hOk s) m) (vm_rows j hj) (by omega)) (by decide) path17.1 rfl rfl (Nat.le_of_ble_eq_true rfl) (fun v_143 σ_143 h_143 => ?_)
                        obtain ⟨rfl, rfl⟩ := h_143
                        refine q_top (.int (bI (sAll (fun p => decide (nI (V_er (sHs m (sOut s (T_nw T))) p) = T_ri T j p)) (V_n (T_nw T))))) (congrArg Value.int (by
                    unfold sAll
                    rw [sHs_n, sOut_n, sF_congr (fun p hp => by rw [g0 _ (by omega) (by omega), hit p (by omega)])])) ?_
                        refine b_eq F 158 dX7_began_146 (by decide) (fun c_146 => ?_) (fun c_146 => ?_)
                        · have hf : (fun s => sCan (V_kd (T_nw T)) (V_n (T_nw T)) s && sAll (fun p => decide (nI (V_er (sHs m (sOut s (T_nw T))) p) = T_ri T j p)) (V_n (T_nw T))) s = false := by simp [c_146]
                          rw [← sFit_f hf] at g1 g2
                          refine q_iinc5 F _ dX7_began_158 (nI_inc _) (by decide) rfl ?_
                          refine q_goto F 108 dX7_began_161 (by decide) ?_
                          exact ih (s + 1) _ (fun o a b => by rw [vm_P_out (by omega)]; exact g0 o a b) (by rw [vm_P_out (by omega)]; exact g1) (by rw [vm_P_out (by omega)]; exact g2) (by omega)
                        · have hf : (fun s => sCan (V_kd (T_nw T)) (V_n (T_nw T)) s && sAll (fun p => decide (nI (V_er (sHs m (sOut s (T_nw T))) p) = T_ri T j p)) (V_n (T_nw T))) s = true := by simp [c_146, c_126]
                          have hT := sFit_t (f := (fun s => sCan (V_kd (T_nw T)) (V_n (T_nw T)) s && sAll (fun p => decide (nI (V_er (sHs m (sOut s (T_nw T))) p) = T_ri T j p)) (V_n (T_nw T)))) (s := s) hf
                          refine q_aload_n F 0 dX7_began_149 rfl rfl ?_
                          refine gX7_60 F dX7_began_150 sh_0 rfl ?_
                          refine q_iload F 5 dX7_began_153 rfl ?_
                          refine iX7_205 F dX7_began_155 (c_fadd (m := (sFit (fun s => sCan (V_kd (T_nw T)) (V_n (T_nw T)) s && sAll (fun p => decide (nI (V_er (sHs m (sOut s (T_nw T))) p) = T_ri T j p)) (V_n (T_nw T))) s).1) (by have := sFit_le (fun s => sCan (V_kd (T_nw T)) (V_n (T_nw T)) s && sAll (fun p => decide (nI (V_er (sHs m (sOut s (T_nw T))) p) = T_ri T j p)) (V_n (T_nw T))) s; omega) (by rw [vm_P_out (by omega)]; exact g1) (nI s)) (by decide) sh_173 rfl rfl (Nat.le_of_ble_eq_true rfl) (fun σ_155 h_155 => ?_)
                          obtain ⟨a1, a2, a3⟩ := h_155
                          refine q_iinc5 F _ dX7_began_158 (nI_inc _) (by decide) rfl ?_
                          refine q_goto F 108 dX7_began_161 (by decide) ?_
                          exact ih (s + 1) _ (fun o a b => by rw [a3 o b, vm_P_out (by omega)]; exact g0 o a b) (by rw [hT]; exact a1) (by rw [hT, a2, vm_P_out (by omega), g2]) (by omega)
                exact L N 0 _ (fun o a b => by rw [vm_upd_n _ _ _ b, vm_upd_n _ _ _ b]) (by simp [vm_upd, upd, sFit]) (by simp [vm_upd, upd, sFit, sNONE]) (by omega)
              · refine q_ldc F dX7_began_95 wX7_80 ?_
                refine K _ _ _ _ ?_ dX7_began_97 rfl
                have e : aBegan T (nI j) (nI m) (nI w1) = (sBAD, T) := by
                  unfold aBegan
                  rw [hx, if_neg (by simp [c_4]), if_neg (by simp [c_16, c_23, c_31]), if_neg c0, if_neg (by omega), if_pos (by simp [c_92])]
                rw [e]
                exact ⟨rfl, hC, fun _ _ => rfl⟩
            · refine q_aload_n F 0 dX7_began_74 rfl rfl ?_
              refine q_iconst F (nI 2) dX7_began_75 (by decide) ?_
              refine iX7_81 F dX7_began_76 (c_found _) (by decide) sh_0 rfl rfl (Nat.le_of_ble_eq_true rfl) (fun v_76 σ_76 h_76 => ?_)
              obtain ⟨rfl, rfl⟩ := h_76
              refine K _ _ _ _ ?_ dX7_began_79 rfl
              have e : aBegan T (nI j) (nI m) (nI w1) = sFound T 2 := by
                unfold aBegan
                rw [hx, if_neg (by simp [c_4]), if_neg (by simp [c_16, c_23, c_31]), if_neg c0, if_pos (by omega)]
              rw [e]
              exact ⟨rfl, hC.fnd _, fun o ho => vm_upd_n _ _ _ (by omega)⟩
          · have c0 : T_rl T j = 0 := by simpa using c_50
            refine q_aload_n F 0 dX7_began_53 rfl rfl ?_
            refine q_iconst F (nI 1) dX7_began_54 (by decide) ?_
            refine iX7_81 F dX7_began_55 (c_found _) (by decide) sh_0 rfl rfl (Nat.le_of_ble_eq_true rfl) (fun v_55 σ_55 h_55 => ?_)
            obtain ⟨rfl, rfl⟩ := h_55
            refine K _ _ _ _ ?_ dX7_began_58 rfl
            have e : aBegan T (nI j) (nI m) (nI w1) = sFound T 1 := by
              unfold aBegan
              rw [hx, if_neg (by simp [c_4]), if_neg (by simp [c_16, c_23, c_31]), if_pos c0]
            rw [e]
            exact ⟨rfl, hC.fnd _, fun o ho => vm_upd_n _ _ _ (by omega)⟩
        · refine q_ldc F dX7_began_34 wX7_80 ?_
          refine K _ _ _ _ ?_ dX7_began_36 rfl
          have e : aBegan T (nI j) (nI m) w = (sBAD, T) := by
            simp [aBegan, c_4, c_31]
          rw [e]
          exact ⟨rfl, hC, fun _ _ => rfl⟩
  · refine q_ldc F dX7_began_7 wX7_152 ?_
    refine K _ _ _ _ ?_ dX7_began_9 rfl
    have e : aBegan T r n w = (sSTATE, T) := by
      simp [aBegan, c_4]
    rw [e]
    exact ⟨rfl, hC, fun _ _ => rfl⟩
