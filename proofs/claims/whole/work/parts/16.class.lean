set_option maxHeartbeats 4000000 in
set_option maxRecDepth 100000 in
theorem k_person {G : vm_G} {σ : vm_M} {T : vm_T} (hC : CInv σ T) (hI : SInv T) (p w : Int32) : vm_RI G 1 mX7_person [.ref 0, .int p, .int w] σ (cPost σ (aPerson T p w)) := by
  refine vm_int (y := mX7_person) (by decide) (Nat.le_of_ble_eq_true rfl) (ls0 := [some (.ref 0), some (.int p), some (.int w)]) rfl rfl (fun C F K => ?_)
  have F : vm_F G C cX7_person RX7 3 _ := F
  show vm_Ex G C 3 0 [some (.ref 0), some (.int p), some (.int w)] [] _
  obtain ⟨hRows, hTape, hNow, hPast, hImg, hTr, hFlt, hFnd, hDr⟩ := id hC
  have hN := hNow.2
  have hOk : sOk (T_nw T) := hI.1.1
  have hn6 : V_n (T_nw T) ≤ 6 := hOk.1
  refine q_iload_n F 1 dX7_person_0 rfl rfl ?_
  refine q_aload_n F 0 dX7_person_1 rfl rfl ?_
  refine gX7_25 F dX7_person_2 sh_0 rfl ?_
  refine gX7_149 F dX7_person_5 path5.1 rfl ?_
  refine q_top (.int (nI (V_n (T_nw T)))) (congrArg Value.int (hN.n)) ?_
  refine iX7_76 F dX7_person_8 (c_isWithin p (by omega)) (by decide) rfl rfl (Nat.le_of_ble_eq_true rfl) (fun v_8 σ_8 h_8 => ?_)
  obtain ⟨rfl, rfl⟩ := h_8
  refine b_ne F 17 dX7_person_11 (by decide) (fun c_11 => ?_) (fun c_11 => ?_)
  · obtain ⟨j, hj, rfl⟩ := wi_of c_11
    refine q_aload_n F 0 dX7_person_17 rfl rfl ?_
    refine gX7_25 F dX7_person_18 sh_0 rfl ?_
    refine q_iload_n F 1 dX7_person_21 rfl rfl ?_
    refine q_iload_n F 2 dX7_person_22 rfl rfl ?_
    refine iX7_169 F dX7_person_23 (d_tell hN path5 (by omega) w) (by decide) path5.1 rfl rfl (Nat.le_of_ble_eq_true rfl) (fun v_23 σ_23 h_23 => ?_)
    obtain ⟨rfl, rfl⟩ := h_23
    refine K _ _ _ _ ?_ dX7_person_26 rfl
    have e : aPerson T (nI j) w = (sTell (T_nw T) j w, T) := by
      simp [aPerson, c_11, xN_nI (show j < 2 ^ 31 by omega)]
    rw [e]
    exact ⟨rfl, hC, fun _ _ => rfl⟩
  · refine q_ldc F dX7_person_14 wX7_80 ?_
    refine K _ _ _ _ ?_ dX7_person_16 rfl
    have e : aPerson T p w = (sBAD, T) := by
      simp [aPerson, c_11]
    rw [e]
    exact ⟨rfl, hC, fun _ _ => rfl⟩
set_option maxHeartbeats 4000000 in
set_option maxRecDepth 100000 in
theorem k_fault {G : vm_G} {σ : vm_M} {T : vm_T} (hC : CInv σ T) (hI : SInv T) : vm_RI G 0 mX7_fault [.ref 0] σ (cPost σ (aFault T)) := by
  refine vm_int (y := mX7_fault) (by decide) (Nat.le_of_ble_eq_true rfl) (ls0 := [some (.ref 0)]) rfl rfl (fun C F K => ?_)
  have F : vm_F G C cX7_fault RX7 1 _ := F
  show vm_Ex G C 1 0 [some (.ref 0)] [] _
  obtain ⟨hRows, hTape, hNow, hPast, hImg, hTr, hFlt, hFnd, hDr⟩ := id hC
  have hN := hNow.2
  have hOk : sOk (T_nw T) := hI.1.1
  have hn6 : V_n (T_nw T) ≤ 6 := hOk.1
  refine q_aload_n F 0 dX7_fault_0 rfl rfl ?_
  refine gX7_68 F dX7_fault_1 sh_0 rfl ?_
  refine K _ _ _ _ ?_ dX7_fault_4 rfl
  exact ⟨hFlt, hC, fun _ _ => rfl⟩
set_option maxHeartbeats 4000000 in
set_option maxRecDepth 100000 in
theorem k_status {G : vm_G} {σ : vm_M} {T : vm_T} (hC : CInv σ T) (hI : SInv T) : vm_RI G 0 mX7_status [.ref 0] σ (cPost σ (aStatus T)) := by
  refine vm_int (y := mX7_status) (by decide) (Nat.le_of_ble_eq_true rfl) (ls0 := [some (.ref 0)]) rfl rfl (fun C F K => ?_)
  have F : vm_F G C cX7_status RX7 1 _ := F
  show vm_Ex G C 1 0 [some (.ref 0)] [] _
  obtain ⟨hRows, hTape, hNow, hPast, hImg, hTr, hFlt, hFnd, hDr⟩ := id hC
  have hN := hNow.2
  have hOk : sOk (T_nw T) := hI.1.1
  have hn6 : V_n (T_nw T) ≤ 6 := hOk.1
  refine q_aload_n F 0 dX7_status_0 rfl rfl ?_
  refine gX7_72 F dX7_status_1 sh_0 rfl ?_
  refine K _ _ _ _ ?_ dX7_status_4 rfl
  exact ⟨hFnd, hC, fun _ _ => rfl⟩
set_option maxHeartbeats 4000000 in
set_option maxRecDepth 100000 in
theorem k_kind {G : vm_G} {σ : vm_M} {T : vm_T} (hC : CInv σ T) (hI : SInv T) (p : Int32) : vm_RI G 1 mX7_kind [.ref 0, .int p] σ (cPost σ (aKind T p)) := by
  refine vm_int (y := mX7_kind) (by decide) (Nat.le_of_ble_eq_true rfl) (ls0 := [some (.ref 0), some (.int p)]) rfl rfl (fun C F K => ?_)
  have F : vm_F G C cX7_kind RX7 2 _ := F
  show vm_Ex G C 2 0 [some (.ref 0), some (.int p)] [] _
  obtain ⟨hRows, hTape, hNow, hPast, hImg, hTr, hFlt, hFnd, hDr⟩ := id hC
  have hN := hNow.2
  have hOk : sOk (T_nw T) := hI.1.1
  have hn6 : V_n (T_nw T) ≤ 6 := hOk.1
  refine q_iload_n F 1 dX7_kind_0 rfl rfl ?_
  refine q_aload_n F 0 dX7_kind_1 rfl rfl ?_
  refine gX7_25 F dX7_kind_2 sh_0 rfl ?_
  refine gX7_149 F dX7_kind_5 path5.1 rfl ?_
  refine q_top (.int (nI (V_n (T_nw T)))) (congrArg Value.int (hN.n)) ?_
  refine iX7_76 F dX7_kind_8 (c_isWithin p (by omega)) (by decide) rfl rfl (Nat.le_of_ble_eq_true rfl) (fun v_8 σ_8 h_8 => ?_)
  obtain ⟨rfl, rfl⟩ := h_8
  refine b_eq F 26 dX7_kind_11 (by decide) (fun c_11 => ?_) (fun c_11 => ?_)
  · refine q_ldc F dX7_kind_26 wX7_80 ?_
    refine K _ _ _ _ ?_ dX7_kind_28 rfl
    have e : aKind T p = (sBAD, T) := by
      simp [aKind, c_11]
    rw [e]
    exact ⟨rfl, hC, fun _ _ => rfl⟩
  · obtain ⟨j, hj, rfl⟩ := wi_of c_11
    refine q_aload_n F 0 dX7_kind_14 rfl rfl ?_
    refine gX7_25 F dX7_kind_15 sh_0 rfl ?_
    refine gX7_223 F dX7_kind_18 path5.1 rfl ?_
    refine q_iload_n F 1 dX7_kind_21 rfl rfl ?_
    refine q_iald F dX7_kind_22 path5.2.1 (by omega) (by decide) ?_
    refine q_top (.int (nI (V_kd (T_nw T) j))) (congrArg Value.int (hN.kd j)) ?_
    refine q_goto F 28 dX7_kind_23 (by decide) ?_
    refine K _ _ _ _ ?_ dX7_kind_28 rfl
    have e : aKind T (nI j) = (nI (V_kd (T_nw T) j), T) := by
      simp [aKind, c_11, xN_nI (show j < 2 ^ 31 by omega)]
    rw [e]
    exact ⟨rfl, hC, fun _ _ => rfl⟩
set_option maxHeartbeats 4000000 in
set_option maxRecDepth 100000 in
theorem k_trace {G : vm_G} {σ : vm_M} {T : vm_T} (hC : CInv σ T) (hI : SInv T) (i : Int32) : vm_RI G 1 mX7_trace [.ref 0, .int i] σ (cPost σ (aTrace T i)) := by
  refine vm_int (y := mX7_trace) (by decide) (Nat.le_of_ble_eq_true rfl) (ls0 := [some (.ref 0), some (.int i)]) rfl rfl (fun C F K => ?_)
  have F : vm_F G C cX7_trace RX7 2 _ := F
  show vm_Ex G C 2 0 [some (.ref 0), some (.int i)] [] _
  obtain ⟨hRows, hTape, hNow, hPast, hImg, hTr, hFlt, hFnd, hDr⟩ := id hC
  have hN := hNow.2
  have hOk : sOk (T_nw T) := hI.1.1
  have hn6 : V_n (T_nw T) ≤ 6 := hOk.1
  have ht := hTr.2.1
  refine q_iload_n F 1 dX7_trace_0 rfl rfl ?_
  refine q_aload_n F 0 dX7_trace_1 rfl rfl ?_
  refine gX7_53 F dX7_trace_2 sh_0 rfl ?_
  refine gX7_229 F dX7_trace_5 sh_171 rfl ?_
  refine q_top (.int (nI (T_tn T))) (congrArg Value.int (hTr.1)) ?_
  refine iX7_76 F dX7_trace_8 (c_isWithin i (by omega)) (by decide) rfl rfl (Nat.le_of_ble_eq_true rfl) (fun v_8 σ_8 h_8 => ?_)
  obtain ⟨rfl, rfl⟩ := h_8
  refine b_eq F 26 dX7_trace_11 (by decide) (fun c_11 => ?_) (fun c_11 => ?_)
  · refine q_ldc F dX7_trace_26 wX7_193 ?_
    refine K _ _ _ _ ?_ dX7_trace_28 rfl
    have e : aTrace T i = (sNONE, T) := by
      simp [aTrace, c_11]
    rw [e]
    exact ⟨rfl, hC, fun _ _ => rfl⟩
  · obtain ⟨j, hj, rfl⟩ := wi_of c_11
    refine q_aload_n F 0 dX7_trace_14 rfl rfl ?_
    refine gX7_53 F dX7_trace_15 sh_0 rfl ?_
    refine gX7_234 F dX7_trace_18 sh_171 rfl ?_
    refine q_iload_n F 1 dX7_trace_21 rfl rfl ?_
    refine q_iald F dX7_trace_22 sh_172 (by omega) (by decide) ?_
    refine q_top (.int (T_tr T j)) (congrArg Value.int (hTr.2.2 j hj)) ?_
    refine q_goto F 28 dX7_trace_23 (by decide) ?_
    refine K _ _ _ _ ?_ dX7_trace_28 rfl
    have e : aTrace T (nI j) = (T_tr T j, T) := by
      simp [aTrace, c_11, xN_nI (show j < 2 ^ 31 by omega)]
    rw [e]
    exact ⟨rfl, hC, fun _ _ => rfl⟩
set_option maxHeartbeats 4000000 in
set_option maxRecDepth 100000 in
theorem k_drop {G : vm_G} {σ : vm_M} {T : vm_T} (hC : CInv σ T) (hI : SInv T) (r : Int32) : vm_RI G 1 mX7_drop [.ref 0, .int r] σ (cPost σ (aDrop T r)) := by
  refine vm_int (y := mX7_drop) (by decide) (Nat.le_of_ble_eq_true rfl) (ls0 := [some (.ref 0), some (.int r), none]) rfl rfl (fun C F K => ?_)
  have F : vm_F G C cX7_drop RX7 3 _ := F
  show vm_Ex G C 3 0 [some (.ref 0), some (.int r), none] [] _
  obtain ⟨hRows, hTape, hNow, hPast, hImg, hTr, hFlt, hFnd, hDr⟩ := id hC
  have hN := hNow.2
  have hOk : sOk (T_nw T) := hI.1.1
  have hn6 : V_n (T_nw T) ≤ 6 := hOk.1
  refine q_iload_n F 1 dX7_drop_0 rfl rfl ?_
  refine q_bipush F (nI 8) dX7_drop_1 (by decide) ?_
  refine iX7_76 F dX7_drop_3 (c_isWithin r (by decide)) (by decide) rfl rfl (Nat.le_of_ble_eq_true rfl) (fun v_3 σ_3 h_3 => ?_)
  obtain ⟨rfl, rfl⟩ := h_3
  refine b_ne F 12 dX7_drop_6 (by decide) (fun c_6 => ?_) (fun c_6 => ?_)
  · obtain ⟨j, hj, rfl⟩ := wi_of c_6
    have hrj := hRows j hj
    have hx := xN_nI (show j < 2 ^ 31 by omega)
    refine q_aload_n F 0 dX7_drop_12 rfl rfl ?_
    refine gX7_11 F dX7_drop_13 sh_0 rfl ?_
    refine q_iload_n F 1 dX7_drop_16 rfl rfl ?_
    refine q_aald (r := 174 + 2 * j) F dX7_drop_17 sh_1 (by decide) hj (by decide) (by simp [hj]) ?_
    refine q_astore_n2 F dX7_drop_18 (by decide) rfl ?_
    refine q_aload_n F 2 dX7_drop_19 rfl rfl ?_
    refine gX7_92 F dX7_drop_20 (vm_rows j hj).1 rfl ?_
    refine q_top (.int (bI (decide (T_rl T j ≠ 0)))) (congrArg Value.int (hrj.2.1)) ?_
    refine b_ne F 32 dX7_drop_23 (by decide) (fun c_23 => ?_) (fun c_23 => ?_)
    · have c0 : T_rl T j ≠ 0 := by simpa using c_23
      obtain ⟨hlane, hlen, h40, hit⟩ := hrj.2.2 c0
      refine q_aload_n F 2 dX7_drop_32 rfl rfl ?_
      refine q_iconst F (nI 0) dX7_drop_33 (by decide) ?_
      refine pX7_92 F dX7_drop_34 (vm_rows j hj).1 rfl ⟨by decide, by decide⟩ ?_
      refine q_aload_n F 0 dX7_drop_37 rfl rfl ?_
      refine q_aload_n F 2 dX7_drop_38 rfl rfl ?_
      refine gX7_95 F dX7_drop_39 (vm_rows j hj).1 rfl ?_
      refine q_top (.int (nI (T_rn T j))) (congrArg Value.int (by simp only [vm_upd_a, upd]; rw [if_neg (by decide)]; exact hlen)) ?_
      refine iX7_89 F dX7_drop_42 (c_foundNone _) (by decide) sh_0 rfl rfl (Nat.le_of_ble_eq_true rfl) (fun v_42 σ_42 h_42 => ?_)
      obtain ⟨rfl, rfl⟩ := h_42
      refine K _ _ _ _ ?_ dX7_drop_45 rfl
      have e : aDrop T (nI j) = (nI (T_rn T j), sT_rows T (vm_u (T_rl T) j 0) (T_rn T) (T_ri T) (nI 0)) := by
        simp [aDrop, c_6, hx, c0]
      rw [e]
      exact ⟨rfl, (CInv.rows hC (rn := T_rn T) (ri := T_ri T) (j := j) (a := 0) hj (by decide) (by simp [vm_upd, upd]; decide) (fun z => absurd rfl z) (fun q hq => ⟨rfl, rfl⟩) (fun o h1 h2 => vm_upd_n _ _ _ h1)).fnd _, fun o ho => by rw [vm_upd_n _ _ _ (by omega), vm_upd_n _ _ _ (by omega)]⟩
    · have c0 : T_rl T j = 0 := by simpa using c_23
      refine q_aload_n F 0 dX7_drop_26 rfl rfl ?_
      refine q_iconst F (nI 1) dX7_drop_27 (by decide) ?_
      refine iX7_81 F dX7_drop_28 (c_found _) (by decide) sh_0 rfl rfl (Nat.le_of_ble_eq_true rfl) (fun v_28 σ_28 h_28 => ?_)
      obtain ⟨rfl, rfl⟩ := h_28
      refine K _ _ _ _ ?_ dX7_drop_31 rfl
      have e : aDrop T (nI j) = (-1000010 - nI 1, sT_fnd T (nI 1)) := by
        simp [aDrop, c_6, hx, c0, sFound]
      rw [e]
      exact ⟨rfl, hC.fnd _, fun o ho => vm_upd_n _ _ _ (by omega)⟩
  · refine q_ldc F dX7_drop_9 wX7_80 ?_
    refine K _ _ _ _ ?_ dX7_drop_11 rfl
    have e : aDrop T r = (sBAD, T) := by
      simp [aDrop, c_6]
    rw [e]
    exact ⟨rfl, hC, fun _ _ => rfl⟩
