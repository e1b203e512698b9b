theorem run_of {i n : Int32} {len : Nat} (h : sRun i n len = true) (hl : len ≤ 40) : ∃ a m : Nat, i = nI a ∧ n = nI m ∧ a + m ≤ len := by
  have h := of_decide_eq_true h
  obtain ⟨m, hm, rfl⟩ := i_of h.1
  obtain ⟨a, ha, rfl⟩ := i_of h.2.1
  have h3 := h.2.2
  rw [nI_toInt ha, nI_toInt hm] at h3
  exact ⟨a, m, rfl, rfl, by omega⟩
set_option maxHeartbeats 4000000 in
set_option maxRecDepth 100000 in
theorem k_row {G : vm_G} {σ : vm_M} {T : vm_T} (hC : CInv σ T) (hI : SInv T) (r l n : Int32) : vm_RI G 1 mX7_row [.ref 0, .int r, .int l, .int n] σ (cPost σ (aRow T r l n)) := by
  refine vm_int (y := mX7_row) (by decide) (Nat.le_of_ble_eq_true rfl) (ls0 := [some (.ref 0), some (.int r), some (.int l), some (.int n)]) rfl rfl (fun C F K => ?_)
  have F : vm_F G C cX7_row RX7 4 _ := F
  show vm_Ex G C 4 0 [some (.ref 0), some (.int r), some (.int l), some (.int n)] [] _
  obtain ⟨hRows, hTape, hNow, hPast, hImg, hTr, hFlt, hFnd, hDr⟩ := id hC
  have hN := hNow.2
  have hOk : sOk (T_nw T) := hI.1.1
  have hn6 : V_n (T_nw T) ≤ 6 := hOk.1
  refine q_iload_n F 1 dX7_row_0 rfl rfl ?_
  refine q_bipush F (nI 8) dX7_row_1 (by decide) ?_
  refine iX7_76 F dX7_row_3 (c_isWithin r (by decide)) (by decide) rfl rfl (Nat.le_of_ble_eq_true rfl) (fun v_3 σ_3 h_3 => ?_)
  obtain ⟨rfl, rfl⟩ := h_3
  refine b_eq F 24 dX7_row_6 (by decide) (fun c_6 => ?_) (fun c_6 => ?_)
  · refine q_ldc F dX7_row_24 wX7_80 ?_
    refine K _ _ _ _ ?_ dX7_row_26 rfl
    have e : aRow T r l n = (sBAD, T) := by
      simp [aRow, c_6]
    rw [e]
    exact ⟨rfl, hC, fun _ _ => rfl⟩
  · obtain ⟨j, hj, rfl⟩ := wi_of c_6
    have hx := xN_nI (show j < 2 ^ 31 by omega)
    refine q_iload_n F 2 dX7_row_9 rfl rfl ?_
    refine q_if_lt F 24 dX7_row_10 (by decide) (fun c_10 => ?_) (fun c_10 => ?_)
    · refine q_ldc F dX7_row_24 wX7_80 ?_
      refine K _ _ _ _ ?_ dX7_row_26 rfl
      have hw : wi l 3 = false := (wi_no l 3).mpr (by rw [i_lt0] at c_10; omega)
      have e : aRow T (nI j) l n = (sBAD, T) := by
        simp [aRow, hw]
      rw [e]
      exact ⟨rfl, hC, fun _ _ => rfl⟩
    · refine q_iload_n F 2 dX7_row_13 rfl rfl ?_
      refine q_iconst F (nI 2) dX7_row_14 (by decide) ?_
      refine q_icmp_gt F 24 dX7_row_15 (by decide) (fun c_15 => ?_) (fun c_15 => ?_)
      · refine q_ldc F dX7_row_24 wX7_80 ?_
        refine K _ _ _ _ ?_ dX7_row_26 rfl
        have hw : wi l 3 = false := (wi_no l 3).mpr (by rw [i_gt (by decide)] at c_15; omega)
        have e : aRow T (nI j) l n = (sBAD, T) := by
          simp [aRow, hw]
        rw [e]
        exact ⟨rfl, hC, fun _ _ => rfl⟩
      · refine q_iload_n F 3 dX7_row_18 rfl rfl ?_
        refine q_bipush F (nI 40) dX7_row_19 (by decide) ?_
        refine q_icmp_le F 27 dX7_row_21 (by decide) (fun c_21 => ?_) (fun c_21 => ?_)
        · have hl0 : ¬ l.toInt < 0 := by rw [i_lt0] at c_10; exact c_10
          have hl2 : ¬ (2 : Int) < l.toInt := by rw [i_gt (by decide)] at c_15; exact c_15
          have hl3 : wi l 3 = true := (wi_iff l 3).mpr (by omega)
          have hn40 : n.toInt ≤ 40 := by rw [i_le (by decide)] at c_21; exact c_21
          refine q_iload_n F 3 dX7_row_27 rfl rfl ?_
          refine q_if_ge F 37 dX7_row_28 (by decide) (fun c_28 => ?_) (fun c_28 => ?_)
          · obtain ⟨a, ha, rfl⟩ := wi_of hl3
            obtain ⟨m, hm, rfl⟩ := i_of ((i_ge0 n).mp c_28)
            have hm40 : m ≤ 40 := by rw [nI_toInt hm] at hn40; omega
            have hxa := xN_nI (show a < 2 ^ 31 by omega)
            have hxm := xN_nI hm
            refine q_aload_n F 0 dX7_row_37 rfl rfl ?_
            refine gX7_11 F dX7_row_38 sh_0 rfl ?_
            refine q_iload_n F 1 dX7_row_41 rfl rfl ?_
            refine q_aald (r := 174 + 2 * j) F dX7_row_42 sh_1 (by decide) hj (by decide) (by simp [hj]) ?_
            refine q_iload_n F 2 dX7_row_43 rfl rfl ?_
            refine q_iload_n F 3 dX7_row_44 rfl rfl ?_
            refine iX7_85 F dX7_row_45 (c_rbegin (vm_rows j hj) _ _) (by decide) (vm_rows j hj).1 rfl rfl (Nat.le_of_ble_eq_true rfl) (fun σ_45 h_45 => ?_)
            obtain ⟨b1, b2, b3, b4, b5⟩ := h_45
            refine q_aload_n F 0 dX7_row_48 rfl rfl ?_
            refine q_iload_n F 3 dX7_row_49 rfl rfl ?_
            refine iX7_89 F dX7_row_50 (c_foundNone _) (by decide) sh_0 rfl rfl (Nat.le_of_ble_eq_true rfl) (fun v_50 σ_50 h_50 => ?_)
            obtain ⟨rfl, rfl⟩ := h_50
            refine K _ _ _ _ ?_ dX7_row_53 rfl
            have h1 : ¬ (nI m).toInt < 0 := by rw [nI_toInt hm]; omega
            have h2 : ¬ (40 : Int) < (nI m).toInt := by rw [nI_toInt hm]; omega
            have e : aRow T (nI j) (nI a) (nI m) = (nI m, sT_rows T (vm_u (T_rl T) j (a + 1)) (vm_u (T_rn T) j m) (vm_u (T_ri T) j (fun _ => nI 0)) (nI 0)) := by
              simp [aRow, c_6, hl3, h1, h2, hx, hxa, hxm]
            rw [e]
            exact ⟨rfl, (CInv.rows hC (rn := vm_u (T_rn T) j m) (ri := vm_u (T_ri T) j (fun _ => nI 0)) (j := j) (a := a + 1) hj (by omega) (by rw [b1]; simp [bI, nI_one]) (fun _ => ⟨by rw [b2, Nat.add_sub_cancel], by rw [b3, vm_u_s], by rw [vm_u_s]; exact hm40, fun k hk => by rw [vm_u_s] at hk ⊢; exact b4 k (by omega)⟩) (fun q hq => ⟨vm_u_n hq, vm_u_n hq⟩) b5).fnd _, fun o ho => by rw [vm_upd_n _ _ _ (by omega)]; exact b5 o (by omega) (by omega)⟩
          · have hneg : n.toInt < 0 := by rw [i_ge0] at c_28; omega
            refine q_aload_n F 0 dX7_row_31 rfl rfl ?_
            refine q_iconst F (nI 4) dX7_row_32 (by decide) ?_
            refine iX7_81 F dX7_row_33 (c_found _) (by decide) sh_0 rfl rfl (Nat.le_of_ble_eq_true rfl) (fun v_33 σ_33 h_33 => ?_)
            obtain ⟨rfl, rfl⟩ := h_33
            refine K _ _ _ _ ?_ dX7_row_36 rfl
            have e : aRow T (nI j) l n = sFound T 4 := by
              simp [aRow, c_6, hl3, hneg, show ¬ (40 : Int) < n.toInt by omega]
            rw [e]
            exact ⟨rfl, hC.fnd _, fun o ho => vm_upd_n _ _ _ (by omega)⟩
        · refine q_ldc F dX7_row_24 wX7_80 ?_
          refine K _ _ _ _ ?_ dX7_row_26 rfl
          have hw : (40 : Int) < n.toInt := by rw [i_le (by decide)] at c_21; omega
          have e : aRow T (nI j) l n = (sBAD, T) := by
            simp [aRow, hw]
          rw [e]
          exact ⟨rfl, hC, fun _ _ => rfl⟩
set_option maxHeartbeats 4000000 in
set_option maxRecDepth 100000 in
theorem k_set {G : vm_G} {σ : vm_M} {T : vm_T} (hC : CInv σ T) (hI : SInv T) (r i v : Int32) : vm_RI G 1 mX7_set [.ref 0, .int r, .int i, .int v] σ (cPost σ (aSet T r i v)) := by
  refine vm_int (y := mX7_set) (by decide) (Nat.le_of_ble_eq_true rfl) (ls0 := [some (.ref 0), some (.int r), some (.int i), some (.int v), none]) rfl rfl (fun C F K => ?_)
  have F : vm_F G C cX7_set RX7 5 _ := F
  show vm_Ex G C 5 0 [some (.ref 0), some (.int r), some (.int i), some (.int v), none] [] _
  obtain ⟨hRows, hTape, hNow, hPast, hImg, hTr, hFlt, hFnd, hDr⟩ := id hC
  have hN := hNow.2
  have hOk : sOk (T_nw T) := hI.1.1
  have hn6 : V_n (T_nw T) ≤ 6 := hOk.1
  refine q_iload_n F 1 dX7_set_0 rfl rfl ?_
  refine q_bipush F (nI 8) dX7_set_1 (by decide) ?_
  refine iX7_76 F dX7_set_3 (c_isWithin r (by decide)) (by decide) rfl rfl (Nat.le_of_ble_eq_true rfl) (fun v_3 σ_3 h_3 => ?_)
  obtain ⟨rfl, rfl⟩ := h_3
  refine b_ne F 12 dX7_set_6 (by decide) (fun c_6 => ?_) (fun c_6 => ?_)
  · obtain ⟨j, hj, rfl⟩ := wi_of c_6
    have hrj := hRows j hj
    have hx := xN_nI (show j < 2 ^ 31 by omega)
    refine q_aload_n F 0 dX7_set_12 rfl rfl ?_
    refine gX7_11 F dX7_set_13 sh_0 rfl ?_
    refine q_iload_n F 1 dX7_set_16 rfl rfl ?_
    refine q_aald (r := 174 + 2 * j) F dX7_set_17 sh_1 (by decide) hj (by decide) (by simp [hj]) ?_
    refine q_astore4 F dX7_set_18 (by decide) rfl ?_
    refine q_aload F 4 dX7_set_20 rfl ?_
    refine gX7_92 F dX7_set_22 (vm_rows j hj).1 rfl ?_
    refine q_top (.int (bI (decide (T_rl T j ≠ 0)))) (congrArg Value.int (hrj.2.1)) ?_
    refine b_ne F 34 dX7_set_25 (by decide) (fun c_25 => ?_) (fun c_25 => ?_)
    · have c0 : T_rl T j ≠ 0 := by simpa using c_25
      obtain ⟨hlane, hlen, h40, hit⟩ := hrj.2.2 c0
      refine q_iload_n F 2 dX7_set_34 rfl rfl ?_
      refine q_aload F 4 dX7_set_35 rfl ?_
      refine gX7_95 F dX7_set_37 (vm_rows j hj).1 rfl ?_
      refine q_top (.int (nI (T_rn T j))) (congrArg Value.int (hlen)) ?_
      refine iX7_76 F dX7_set_40 (c_isWithin i (by omega)) (by decide) rfl rfl (Nat.le_of_ble_eq_true rfl) (fun v_40 σ_40 h_40 => ?_)
      obtain ⟨rfl, rfl⟩ := h_40
      refine b_ne F 52 dX7_set_43 (by decide) (fun c_43 => ?_) (fun c_43 => ?_)
      · obtain ⟨q, hq, rfl⟩ := wi_of c_43
        have hxq := xN_nI (show q < 2 ^ 31 by omega)
        refine q_aload F 4 dX7_set_52 rfl ?_
        refine gX7_98 F dX7_set_54 (vm_rows j hj).1 rfl ?_
        refine q_iload_n F 2 dX7_set_57 rfl rfl ?_
        refine q_aload F 4 dX7_set_58 rfl ?_
        refine q_iload_n F 3 dX7_set_60 rfl rfl ?_
        refine iX7_102 F dX7_set_61 (c_narrowed (vm_rows j hj) hlane (by have := hrj.1; omega) v) (by decide) (vm_rows j hj).1 rfl rfl (Nat.le_of_ble_eq_true rfl) (fun v_61 σ_61 h_61 => ?_)
        obtain ⟨rfl, rfl⟩ := h_61
        refine q_top (.int (sNar (T_rl T j) v)) (congrArg Value.int (by rw [Nat.sub_add_cancel (by omega)])) ?_
        refine q_iast F dX7_set_64 (vm_rows j hj).2 (by omega) (by decide) ?_
        refine q_aload_n F 0 dX7_set_65 rfl rfl ?_
        refine q_aload F 4 dX7_set_66 rfl ?_
        refine gX7_98 F dX7_set_68 (vm_rows j hj).1 rfl ?_
        refine q_iload_n F 2 dX7_set_71 rfl rfl ?_
        refine q_iald F dX7_set_72 (vm_rows j hj).2 (by omega) (by decide) ?_
        refine q_top (.int (sNar (T_rl T j) v)) (congrArg Value.int (by simp [vm_upd, upd])) ?_
        refine iX7_89 F dX7_set_73 (c_foundNone _) (by decide) sh_0 rfl rfl (Nat.le_of_ble_eq_true rfl) (fun v_73 σ_73 h_73 => ?_)
        obtain ⟨rfl, rfl⟩ := h_73
        refine K _ _ _ _ ?_ dX7_set_76 rfl
        have hs : ∀ k, vm_upd σ_61 (174 + 2 * j + 1) q (sNar (T_rl T j) v) (174 + 2 * j) k = σ_61 (174 + 2 * j) k := fun k => by rw [vm_upd_n _ _ _ (by omega)]
        have hh := CInv.rows hC (σ' := vm_upd σ_61 (174 + 2 * j + 1) q (sNar (T_rl T j) v)) (rn := T_rn T) (ri := vm_u (T_ri T) j (vm_u (T_ri T j) q (sNar (T_rl T j) v))) (j := j) (a := T_rl T j) hj hrj.1 (by rw [hs]; exact hrj.2.1) (fun _ => ⟨by rw [hs]; exact hlane, by rw [hs]; exact hlen, h40, fun k hk => by
          rw [vm_upd_a, vm_u_s]
          simp only [upd, vm_u]
          split
          · rfl
          · exact hit k hk⟩) (fun z hz => ⟨rfl, vm_u_n hz⟩) (fun o h1 h2 => vm_upd_n _ _ _ h2)
        rw [vm_u_same] at hh
        have e : aSet T (nI j) (nI q) v = (sNar (T_rl T j) v, sT_rows T (T_rl T) (T_rn T) (vm_u (T_ri T) j (vm_u (T_ri T j) q (sNar (T_rl T j) v))) (nI 0)) := by
          simp [aSet, c_6, hx, hxq, c0, c_43]
        rw [e]
        exact ⟨rfl, hh.fnd _, fun o ho => by rw [vm_upd_n _ _ _ (by omega), vm_upd_n _ _ _ (by omega)]⟩
      · refine q_aload_n F 0 dX7_set_46 rfl rfl ?_
        refine q_iconst F (nI 2) dX7_set_47 (by decide) ?_
        refine iX7_81 F dX7_set_48 (c_found _) (by decide) sh_0 rfl rfl (Nat.le_of_ble_eq_true rfl) (fun v_48 σ_48 h_48 => ?_)
        obtain ⟨rfl, rfl⟩ := h_48
        refine K _ _ _ _ ?_ dX7_set_51 rfl
        have e : aSet T (nI j) i v = sFound T 2 := by
          simp [aSet, c_6, hx, c0, c_43]
        rw [e]
        exact ⟨rfl, hC.fnd _, fun o ho => vm_upd_n _ _ _ (by omega)⟩
    · have c0 : T_rl T j = 0 := by simpa using c_25
      refine q_aload_n F 0 dX7_set_28 rfl rfl ?_
      refine q_iconst F (nI 1) dX7_set_29 (by decide) ?_
      refine iX7_81 F dX7_set_30 (c_found _) (by decide) sh_0 rfl rfl (Nat.le_of_ble_eq_true rfl) (fun v_30 σ_30 h_30 => ?_)
      obtain ⟨rfl, rfl⟩ := h_30
      refine K _ _ _ _ ?_ dX7_set_33 rfl
      have e : aSet T (nI j) i v = sFound T 1 := by
        simp [aSet, c_6, hx, c0]
      rw [e]
      exact ⟨rfl, hC.fnd _, fun o ho => vm_upd_n _ _ _ (by omega)⟩
  · refine q_ldc F dX7_set_9 wX7_80 ?_
    refine K _ _ _ _ ?_ dX7_set_11 rfl
    have e : aSet T r i v = (sBAD, T) := by
      simp [aSet, c_6]
    rw [e]
    exact ⟨rfl, hC, fun _ _ => rfl⟩
theorem CInv.now {σ : vm_M} {T : vm_T} (h : CInv σ T) {v : vm_V} {pl : Nat} {pv : Nat → vm_V} {σ' : vm_M} (h1 : isP σ' 5 v) (h2 : cPast σ' pl pv) (hf : ∀ o, ¬ (5 ≤ o ∧ o ≤ 10) → ¬ (25 ≤ o ∧ o ≤ 170) → σ' o = σ o) : CInv σ' (sT_now T v pl pv) := by
  obtain ⟨g1, g2, g3, g4, g5, g6, g7, g8, w, g9, g10⟩ := h
  exact ⟨g1.fr (fun o a b => hf o (by omega) (by omega)), g2.fr (hf 3 (by omega) (by omega)) (hf 4 (by omega) (by omega)), ⟨by rw [hf 0 (by omega) (by omega)]; exact g3.1, h1⟩, h2, g5.fr (hf 24 (by omega) (by omega)) (fun o a b => hf o (by omega) (by omega)), g6.fr (hf 171 (by omega) (by omega)) (hf 172 (by omega) (by omega)), by rw [hf 0 (by omega) (by omega)]; exact g7, by rw [hf 0 (by omega) (by omega)]; exact g8, w, g9.fr (fun o a b => hf o (by omega) (by omega)), g10⟩
set_option maxHeartbeats 4000000 in
set_option maxRecDepth 100000 in
theorem k_undo {G : vm_G} {σ : vm_M} {T : vm_T} (hC : CInv σ T) (hI : SInv T) : vm_RI G 2 mX7_undo [.ref 0] σ (cPost σ (aUndo T)) := by
  refine vm_int (y := mX7_undo) (by decide) (Nat.le_of_ble_eq_true rfl) (ls0 := [some (.ref 0)]) rfl rfl (fun C F K => ?_)
  have F : vm_F G C cX7_undo RX7 1 _ := F
  show vm_Ex G C 1 0 [some (.ref 0)] [] _
  obtain ⟨hRows, hTape, hNow, hPast, hImg, hTr, hFlt, hFnd, hDr⟩ := id hC
  have hN := hNow.2
  have hOk : sOk (T_nw T) := hI.1.1
  have hn6 : V_n (T_nw T) ≤ 6 := hOk.1
  obtain ⟨nx, hnx, p1, p2, p3, p4⟩ := id hPast
  refine q_aload_n F 0 dX7_undo_0 rfl rfl ?_
  refine gX7_46 F dX7_undo_1 sh_0 rfl ?_
  refine gX7_165 F dX7_undo_4 sh_25 rfl ?_
  refine q_top (.int (nI (T_pl T))) (congrArg Value.int (p2)) ?_
  refine z_ne F 13 dX7_undo_7 (by decide) (by omega) (fun c_7 => ?_) (fun c_7 => ?_)
  · have hb24 : pastB nx (T_pl T) (T_pl T - 1) = 27 + 6 * ((nx + 23) % 24) := by unfold pastB; omega
    have hv := p4 (T_pl T - 1) (by omega)
    rw [hb24] at hv
    refine q_aload_n F 0 dX7_undo_13 rfl rfl ?_
    refine gX7_46 F dX7_undo_14 sh_0 rfl ?_
    refine q_aload_n F 0 dX7_undo_17 rfl rfl ?_
    refine gX7_25 F dX7_undo_18 sh_0 rfl ?_
    refine iX7_166 F dX7_undo_21 (c_giveBack p1 hnx p2 (by omega) p3 hv) (by decide) sh_25 rfl rfl (Nat.le_of_ble_eq_true rfl) (fun σ_21 h_21 => ?_)
    subst h_21
    refine q_aload_n F 0 dX7_undo_24 rfl rfl ?_
    refine gX7_46 F dX7_undo_25 sh_0 rfl ?_
    refine gX7_165 F dX7_undo_28 sh_25 rfl ?_
    refine q_top (.int (nI (T_pl T - 1))) (congrArg Value.int (by rw [vm_P_out (by omega)]; simp [vm_upd, upd])) ?_
    refine K _ _ _ _ ?_ dX7_undo_31 rfl
    have e : aUndo T = (nI (T_pl T - 1), sT_now T (T_pv T (T_pl T - 1)) (T_pl T - 1) (T_pv T)) := by
      simp [aUndo, c_7]
    rw [e]
    exact ⟨rfl, hC.now (isP_P _ _ _) ⟨(nx + 23) % 24, Nat.mod_lt _ (by decide), by rw [vm_P_out (by omega)]; simp [vm_upd, upd], by rw [vm_P_out (by omega)]; simp [vm_upd, upd], by omega, fun i hi => by
      have h9 := p4 i (by omega)
      have e9 : pastB ((nx + 23) % 24) (T_pl T - 1) i = pastB nx (T_pl T) i := by unfold pastB; omega
      rw [e9]
      exact h9.fr (fun o a b => by rw [vm_P_out (by unfold pastB at a; omega), vm_upd_n _ _ _ (by unfold pastB at a; omega), vm_upd_n _ _ _ (by unfold pastB at a; omega)])⟩ (fun o a b => by rw [vm_P_out (by omega), vm_upd_n _ _ _ (by omega), vm_upd_n _ _ _ (by omega)]), fun o ho => by rw [vm_P_out (by omega), vm_upd_n _ _ _ (by omega), vm_upd_n _ _ _ (by omega)]⟩
  · refine q_ldc F dX7_undo_10 wX7_152 ?_
    refine K _ _ _ _ ?_ dX7_undo_12 rfl
    have e : aUndo T = (sSTATE, T) := by
      simp [aUndo, c_7]
    rw [e]
    exact ⟨rfl, hC, fun _ _ => rfl⟩
