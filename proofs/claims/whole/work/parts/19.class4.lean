theorem cpy_l : Cond.methodLink RX7 111 arraycopyName ∈ vm_wsA := vm_mem 321 (by decide +kernel) (by decide +kernel)
theorem cpy_n : Cond.native arraycopyName ∈ vm_wsA := vm_mem 323 (by decide +kernel) (by decide +kernel)
theorem cpy_s : Cond.static arraycopyName ∈ vm_wsA := vm_mem 322 (by decide +kernel) (by decide +kernel)
theorem cpy_i : Cond.initialized "java/lang/System" ∈ vm_wsA := vm_mem 57 (by decide +kernel) (by decide +kernel)
set_option maxHeartbeats 4000000 in
set_option maxRecDepth 100000 in
theorem k_copy {G : vm_G} {σ : vm_M} {T : vm_T} (hC : CInv σ T) (hI : SInv T) (a i b k n : Int32) : vm_RI G 1 mX7_copy [.ref 0, .int a, .int i, .int b, .int k, .int n] σ (cPost σ (aCopy T a i b k n)) := by
  refine vm_int (y := mX7_copy) (by decide) (Nat.le_of_ble_eq_true rfl) (ls0 := [some (.ref 0), some (.int a), some (.int i), some (.int b), some (.int k), some (.int n), none, none]) rfl rfl (fun C F K => ?_)
  have F : vm_F G C cX7_copy RX7 8 _ := F
  show vm_Ex G C 8 0 [some (.ref 0), some (.int a), some (.int i), some (.int b), some (.int k), some (.int n), none, none] [] _
  obtain ⟨hRows, hTape, hNow, hPast, hImg, hTr, hFlt, hFnd, hDr⟩ := id hC
  have hN := hNow.2
  have hOk : sOk (T_nw T) := hI.1.1
  have hn6 : V_n (T_nw T) ≤ 6 := hOk.1
  refine q_iload_n F 1 dX7_copy_0 rfl rfl ?_
  refine q_bipush F (nI 8) dX7_copy_1 (by decide) ?_
  refine iX7_76 F dX7_copy_3 (c_isWithin a (by decide)) (by decide) rfl rfl (Nat.le_of_ble_eq_true rfl) (fun v_3 σ_3 h_3 => ?_)
  obtain ⟨rfl, rfl⟩ := h_3
  refine b_eq F 18 dX7_copy_6 (by decide) (fun c_6 => ?_) (fun c_6 => ?_)
  · refine q_ldc F dX7_copy_18 wX7_80 ?_
    refine K _ _ _ _ ?_ dX7_copy_20 rfl
    have e : aCopy T a i b k n = (sBAD, T) := by
      simp [aCopy, c_6]
    rw [e]
    exact ⟨rfl, hC, fun _ _ => rfl⟩
  · obtain ⟨j, hj, rfl⟩ := wi_of c_6
    have hrj := hRows j hj
    have hx := xN_nI (show j < 2 ^ 31 by omega)
    refine q_iload_n F 3 dX7_copy_9 rfl rfl ?_
    refine q_bipush F (nI 8) dX7_copy_10 (by decide) ?_
    refine iX7_76 F dX7_copy_12 (c_isWithin b (by decide)) (by decide) rfl rfl (Nat.le_of_ble_eq_true rfl) (fun v_12 σ_12 h_12 => ?_)
    obtain ⟨rfl, rfl⟩ := h_12
    refine b_ne F 21 dX7_copy_15 (by decide) (fun c_15 => ?_) (fun c_15 => ?_)
    · obtain ⟨j2, hj2, rfl⟩ := wi_of c_15
      have hrj2 := hRows j2 hj2
      have hx2 := xN_nI (show j2 < 2 ^ 31 by omega)
      refine q_aload_n F 0 dX7_copy_21 rfl rfl ?_
      refine gX7_11 F dX7_copy_22 sh_0 rfl ?_
      refine q_iload_n F 1 dX7_copy_25 rfl rfl ?_
      refine q_aald (r := 174 + 2 * j) F dX7_copy_26 sh_1 (by decide) hj (by decide) (by simp [hj]) ?_
      refine q_astore6 F dX7_copy_27 (by decide) rfl ?_
      refine q_aload_n F 0 dX7_copy_29 rfl rfl ?_
      refine gX7_11 F dX7_copy_30 sh_0 rfl ?_
      refine q_iload_n F 3 dX7_copy_33 rfl rfl ?_
      refine q_aald (r := 174 + 2 * j2) F dX7_copy_34 sh_1 (by decide) hj2 (by decide) (by simp [hj2]) ?_
      refine q_astore7 F dX7_copy_35 (by decide) rfl ?_
      refine q_aload F 6 dX7_copy_37 rfl ?_
      refine gX7_92 F dX7_copy_39 (vm_rows j hj).1 rfl ?_
      refine q_top (.int (bI (decide (T_rl T j ≠ 0)))) (congrArg Value.int (hrj.2.1)) ?_
      refine b_eq F 53 dX7_copy_42 (by decide) (fun c_42 => ?_) (fun c_42 => ?_)
      · have c0 : T_rl T j = 0 := by simpa using c_42
        refine q_aload_n F 0 dX7_copy_53 rfl rfl ?_
        refine q_iconst F (nI 1) dX7_copy_54 (by decide) ?_
        refine iX7_81 F dX7_copy_55 (c_found _) (by decide) sh_0 rfl rfl (Nat.le_of_ble_eq_true rfl) (fun v_55 σ_55 h_55 => ?_)
        obtain ⟨rfl, rfl⟩ := h_55
        refine K _ _ _ _ ?_ dX7_copy_58 rfl
        have e : aCopy T (nI j) i (nI j2) k n = sFound T 1 := by
          simp [aCopy, c_6, c_15, hx, hx2, c0]
        rw [e]
        exact ⟨rfl, hC.fnd _, fun o ho => vm_upd_n _ _ _ (by omega)⟩
      · have c0 : T_rl T j ≠ 0 := by simpa using c_42
        obtain ⟨hlane, hlen, h40, hit⟩ := hrj.2.2 c0
        refine q_aload F 7 dX7_copy_45 rfl ?_
        refine gX7_92 F dX7_copy_47 (vm_rows j2 hj2).1 rfl ?_
        refine q_top (.int (bI (decide (T_rl T j2 ≠ 0)))) (congrArg Value.int (hrj2.2.1)) ?_
        refine b_ne F 59 dX7_copy_50 (by decide) (fun c_50 => ?_) (fun c_50 => ?_)
        · have d0 : T_rl T j2 ≠ 0 := by simpa using c_50
          obtain ⟨hlane2, hlen2, h402, hit2⟩ := hrj2.2.2 d0
          refine q_aload F 6 dX7_copy_59 rfl ?_
          refine gX7_105 F dX7_copy_61 (vm_rows j hj).1 rfl ?_
          refine q_top (.int (nI (T_rl T j - 1))) (congrArg Value.int (hlane)) ?_
          refine q_aload F 7 dX7_copy_64 rfl ?_
          refine gX7_105 F dX7_copy_66 (vm_rows j2 hj2).1 rfl ?_
          refine q_top (.int (nI (T_rl T j2 - 1))) (congrArg Value.int (hlane2)) ?_
          refine n_eq F 78 dX7_copy_69 (by decide) (by have := hrj.1; omega) (by have := hrj2.1; omega) (fun c_69 => ?_) (fun c_69 => ?_)
          · have l0 : T_rl T j = T_rl T j2 := by have := hrj.1; have := hrj2.1; omega
            refine q_aload F 6 dX7_copy_78 rfl ?_
            refine q_iload_n F 2 dX7_copy_80 rfl rfl ?_
            refine q_iload F 5 dX7_copy_81 rfl ?_
            refine iX7_108 F dX7_copy_83 (c_hasRun (vm_rows j hj) hlen h40 i n) (by decide) (vm_rows j hj).1 rfl rfl (Nat.le_of_ble_eq_true rfl) (fun v_83 σ_83 h_83 => ?_)
            obtain ⟨rfl, rfl⟩ := h_83
            refine b_eq F 101 dX7_copy_86 (by decide) (fun c_86 => ?_) (fun c_86 => ?_)
            · refine q_aload_n F 0 dX7_copy_101 rfl rfl ?_
              refine q_iconst F (nI 2) dX7_copy_102 (by decide) ?_
              refine iX7_81 F dX7_copy_103 (c_found _) (by decide) sh_0 rfl rfl (Nat.le_of_ble_eq_true rfl) (fun v_103 σ_103 h_103 => ?_)
              obtain ⟨rfl, rfl⟩ := h_103
              refine K _ _ _ _ ?_ dX7_copy_106 rfl
              have e : aCopy T (nI j) i (nI j2) k n = sFound T 2 := by
                simp [aCopy, c_6, c_15, hx, hx2, c0, d0, ← l0, c_86]
              rw [e]
              exact ⟨rfl, hC.fnd _, fun o ho => vm_upd_n _ _ _ (by omega)⟩
            · refine q_aload F 7 dX7_copy_89 rfl ?_
              refine q_iload F 4 dX7_copy_91 rfl ?_
              refine q_iload F 5 dX7_copy_93 rfl ?_
              refine iX7_108 F dX7_copy_95 (c_hasRun (vm_rows j2 hj2) hlen2 h402 k n) (by decide) (vm_rows j2 hj2).1 rfl rfl (Nat.le_of_ble_eq_true rfl) (fun v_95 σ_95 h_95 => ?_)
              obtain ⟨rfl, rfl⟩ := h_95
              refine b_ne F 107 dX7_copy_98 (by decide) (fun c_98 => ?_) (fun c_98 => ?_)
              · obtain ⟨i1, m1, rfl, rfl, hs1⟩ := run_of c_86 h40
                obtain ⟨k1, m2, rfl, em, hs2⟩ := run_of c_98 h402
                have em2 : m1 = m2 := (nI_eq (by omega) (by omega)).mp em
                subst em2
                have hxi := xN_nI (show i1 < 2 ^ 31 by omega)
                have hxk := xN_nI (show k1 < 2 ^ 31 by omega)
                have hxm := xN_nI (show m1 < 2 ^ 31 by omega)
                refine q_aload F 6 dX7_copy_107 rfl ?_
                refine gX7_98 F dX7_copy_109 (vm_rows j hj).1 rfl ?_
                refine q_iload_n F 2 dX7_copy_112 rfl rfl ?_
                refine q_aload F 7 dX7_copy_113 rfl ?_
                refine gX7_98 F dX7_copy_115 (vm_rows j2 hj2).1 rfl ?_
                refine q_iload F 4 dX7_copy_118 rfl ?_
                refine q_iload F 5 dX7_copy_120 rfl ?_
                refine q_copy cpy_l cpy_n cpy_s cpy_i F (by decide) dX7_copy_122 (Nat.le_of_ble_eq_true rfl) (vm_rows j hj).2 (vm_rows j2 hj2).2 (by omega) (by omega) (by decide) (by decide) ?_
                refine q_aload_n F 0 dX7_copy_125 rfl rfl ?_
                refine q_iload F 5 dX7_copy_126 rfl ?_
                refine iX7_89 F dX7_copy_128 (c_foundNone _) (by decide) sh_0 rfl rfl (Nat.le_of_ble_eq_true rfl) (fun v_128 σ_128 h_128 => ?_)
                obtain ⟨rfl, rfl⟩ := h_128
                refine K _ _ _ _ ?_ dX7_copy_131 rfl
                have hh := CInv.rows hC (σ' := fun o => if o = 174 + 2 * j2 + 1 then va_cpy (σ_95 (174 + 2 * j + 1)) (σ_95 (174 + 2 * j2 + 1)) i1 k1 m1 else σ_95 o) (rn := T_rn T) (ri := vm_u (T_ri T) j2 (va_cpy (T_ri T j) (T_ri T j2) i1 k1 m1)) (j := j2) (a := T_rl T j2) hj2 hrj2.1 (by rw [if_neg (by omega)]; exact hrj2.2.1) (fun _ => ⟨by rw [if_neg (by omega)]; exact hlane2, by rw [if_neg (by omega)]; exact hlen2, h402, fun z hz => by
                  rw [if_pos rfl, vm_u_s]
                  simp only [va_cpy]
                  split
                  · exact hit _ (by omega)
                  · exact hit2 z hz⟩) (fun z hz => ⟨rfl, vm_u_n hz⟩) (fun o h1 h2 => if_neg h2)
                rw [vm_u_same] at hh
                have e : aCopy T (nI j) (nI i1) (nI j2) (nI k1) (nI m1) = (nI m1, sT_rows T (T_rl T) (T_rn T) (vm_u (T_ri T) j2 (va_cpy (T_ri T j) (T_ri T j2) i1 k1 m1)) (nI 0)) := by
                  unfold aCopy
                  rw [hx, hx2, hxi, hxk, hxm, if_neg (by simp [c_6, c_15]), if_neg (by simp [c0, d0]), if_neg (by simp [l0]), if_neg (by simp [c_86, c_98])]
                rw [e]
                exact ⟨rfl, hh.fnd _, fun o ho => by rw [vm_upd_n _ _ _ (by omega), if_neg (by omega)]⟩
              · refine q_aload_n F 0 dX7_copy_101 rfl rfl ?_
                refine q_iconst F (nI 2) dX7_copy_102 (by decide) ?_
                refine iX7_81 F dX7_copy_103 (c_found _) (by decide) sh_0 rfl rfl (Nat.le_of_ble_eq_true rfl) (fun v_103 σ_103 h_103 => ?_)
                obtain ⟨rfl, rfl⟩ := h_103
                refine K _ _ _ _ ?_ dX7_copy_106 rfl
                have e : aCopy T (nI j) i (nI j2) k n = sFound T 2 := by
                  simp [aCopy, c_6, c_15, hx, hx2, c0, d0, ← l0, c_98]
                rw [e]
                exact ⟨rfl, hC.fnd _, fun o ho => vm_upd_n _ _ _ (by omega)⟩
          · have l0 : T_rl T j ≠ T_rl T j2 := by have := hrj.1; have := hrj2.1; omega
            refine q_aload_n F 0 dX7_copy_72 rfl rfl ?_
            refine q_iconst F (nI 5) dX7_copy_73 (by decide) ?_
            refine iX7_81 F dX7_copy_74 (c_found _) (by decide) sh_0 rfl rfl (Nat.le_of_ble_eq_true rfl) (fun v_74 σ_74 h_74 => ?_)
            obtain ⟨rfl, rfl⟩ := h_74
            refine K _ _ _ _ ?_ dX7_copy_77 rfl
            have e : aCopy T (nI j) i (nI j2) k n = sFound T 5 := by
              simp [aCopy, c_6, c_15, hx, hx2, c0, d0, l0]
            rw [e]
            exact ⟨rfl, hC.fnd _, fun o ho => vm_upd_n _ _ _ (by omega)⟩
        · have d0 : T_rl T j2 = 0 := by simpa using c_50
          refine q_aload_n F 0 dX7_copy_53 rfl rfl ?_
          refine q_iconst F (nI 1) dX7_copy_54 (by decide) ?_
          refine iX7_81 F dX7_copy_55 (c_found _) (by decide) sh_0 rfl rfl (Nat.le_of_ble_eq_true rfl) (fun v_55 σ_55 h_55 => ?_)
          obtain ⟨rfl, rfl⟩ := h_55
          refine K _ _ _ _ ?_ dX7_copy_58 rfl
          have e : aCopy T (nI j) i (nI j2) k n = sFound T 1 := by
            simp [aCopy, c_6, c_15, hx, hx2, d0]
          rw [e]
          exact ⟨rfl, hC.fnd _, fun o ho => vm_upd_n _ _ _ (by omega)⟩
    · refine q_ldc F dX7_copy_18 wX7_80 ?_
      refine K _ _ _ _ ?_ dX7_copy_20 rfl
      have e : aCopy T (nI j) i b k n = (sBAD, T) := by
        simp [aCopy, c_15]
      rw [e]
      exact ⟨rfl, hC, fun _ _ => rfl⟩
set_option maxHeartbeats 4000000 in
set_option maxRecDepth 100000 in
theorem k_done {G : vm_G} {σ : vm_M} {T : vm_T} (hC : CInv σ T) (hI : SInv T) (e w : Int32) : vm_RI G 4 mX7_done [.ref 0, .int e, .int w] σ (cPost σ (aDone T e w)) := by
  refine vm_int (y := mX7_done) (by decide) (Nat.le_of_ble_eq_true rfl) (ls0 := [some (.ref 0), some (.int e), some (.int w), none]) rfl rfl (fun C F K => ?_)
  have F : vm_F G C cX7_done RX7 4 _ := F
  show vm_Ex G C 4 0 [some (.ref 0), some (.int e), some (.int w), none] [] _
  obtain ⟨hRows, hTape, hNow, hPast, hImg, hTr, hFlt, hFnd, hDr⟩ := id hC
  have hN := hNow.2
  have hOk : sOk (T_nw T) := hI.1.1
  have hn6 : V_n (T_nw T) ≤ 6 := hOk.1
  refine q_iload_n F 1 dX7_done_0 rfl rfl ?_
  refine q_aload_n F 0 dX7_done_1 rfl rfl ?_
  refine gX7_25 F dX7_done_2 sh_0 rfl ?_
  refine gX7_149 F dX7_done_5 path5.1 rfl ?_
  refine q_top (.int (nI (V_n (T_nw T)))) (congrArg Value.int (hN.n)) ?_
  refine iX7_76 F dX7_done_8 (c_isWithin e (by omega)) (by decide) rfl rfl (Nat.le_of_ble_eq_true rfl) (fun v_8 σ_8 h_8 => ?_)
  obtain ⟨rfl, rfl⟩ := h_8
  refine b_eq F 22 dX7_done_11 (by decide) (fun c_11 => ?_) (fun c_11 => ?_)
  · refine q_ldc F dX7_done_22 wX7_80 ?_
    refine K _ _ _ _ ?_ dX7_done_24 rfl
    have e : aDone T e w = (sBAD, T) := by
      simp [aDone, c_11]
    rw [e]
    exact ⟨rfl, hC, fun _ _ => rfl⟩
  · obtain ⟨j, hj, rfl⟩ := wi_of c_11
    have hx := xN_nI (show j < 2 ^ 31 by omega)
    refine q_iload_n F 2 dX7_done_14 rfl rfl ?_
    refine q_iconst F (nI 2) dX7_done_15 (by decide) ?_
    refine iX7_76 F dX7_done_16 (c_isWithin w (by decide)) (by decide) rfl rfl (Nat.le_of_ble_eq_true rfl) (fun v_16 σ_16 h_16 => ?_)
    obtain ⟨rfl, rfl⟩ := h_16
    refine b_ne F 25 dX7_done_19 (by decide) (fun c_19 => ?_) (fun c_19 => ?_)
    · obtain ⟨q, hq, rfl⟩ := wi_of c_19
      refine q_aload_n F 0 dX7_done_25 rfl rfl ?_
      refine gX7_32 F dX7_done_26 sh_0 rfl ?_
      refine q_aload_n F 0 dX7_done_29 rfl rfl ?_
      refine gX7_25 F dX7_done_30 sh_0 rfl ?_
      refine iX7_142 F dX7_done_33 (c_become path17 path5 (by omega) hN) (by decide) path17.1 rfl rfl (Nat.le_of_ble_eq_true rfl) (fun σ_33 h_33 => ?_)
      subst h_33
      refine q_aload_n F 0 dX7_done_36 rfl rfl ?_
      refine gX7_32 F dX7_done_37 sh_0 rfl ?_
      refine q_iconst F (nI 1) dX7_done_40 (by decide) ?_
      refine q_iload_n F 1 dX7_done_41 rfl rfl ?_
      refine q_ishl F dX7_done_42 ?_
      refine q_bipush F (nI 120) dX7_done_43 (by decide) ?_
      refine iX7_190 F dX7_done_45 (c_halvesUntil path17 hOk (m := 120) (by decide) (sBit j)) (by decide) path17.1 rfl rfl (Nat.le_of_ble_eq_true rfl) (fun v_45 σ_45 h_45 => ?_)
      rcases h_45 with ⟨hu, rfl, rfl⟩ | ⟨hu, rfl, rfl⟩
      · refine q_istore_n3 F dX7_done_48 (by decide) rfl ?_
        refine q_iload_n F 3 dX7_done_49 rfl rfl ?_
        refine q_ldc F dX7_done_50 wX7_193 ?_
        refine q_icmp_ne F 58 dX7_done_52 (by decide) (fun c_52 => ?_) (fun c_52 => ?_)
        · refine q_iload_n F 2 dX7_done_58 rfl rfl ?_
          refine z_ne F 66 dX7_done_59 (by decide) (by omega) (fun c_59 => ?_) (fun c_59 => ?_)
          · refine q_aload_n F 0 dX7_done_66 rfl rfl ?_
            refine gX7_32 F dX7_done_67 sh_0 rfl ?_
            refine q_iload_n F 1 dX7_done_70 rfl rfl ?_
            refine iX7_176 F dX7_done_71 (c_holder path17 (sOk_Hs hOk _) (by rw [sHs_n]; exact hj)) (by decide) path17.1 rfl rfl (Nat.le_of_ble_eq_true rfl) (fun v_71 σ_71 h_71 => ?_)
            obtain ⟨rfl, rfl⟩ := h_71
            refine K _ _ _ _ ?_ dX7_done_74 rfl
            have e : aDone T (nI j) (nI q) = (nI (sHold j (sHs (sU (sBit j) (T_nw T) 120) (T_nw T))), T) := by
              have hq0 : ¬ nI q = nI 0 := fun z => c_59 ((nI_eq (by omega) (by decide)).mp z)
              unfold aDone
              rw [hx, if_neg (by simp [c_11, c_19]), if_neg (by omega), if_neg hq0]
            rw [e]
            exact ⟨rfl, hC.fr (fun o a b c d => vm_P_out (by omega)), fun o ho => vm_P_out (by omega)⟩
          · refine q_iload_n F 3 dX7_done_62 rfl rfl ?_
            refine q_goto F 74 dX7_done_63 (by decide) ?_
            refine K _ _ _ _ ?_ dX7_done_74 rfl
            have e : aDone T (nI j) (nI q) = (nI (sU (sBit j) (T_nw T) 120), T) := by
              unfold aDone
              rw [hx, if_neg (by simp [c_11, c_19]), if_neg (by omega), if_pos (by rw [c_59])]
            rw [e]
            exact ⟨rfl, hC.fr (fun o a b c d => vm_P_out (by omega)), fun o ho => vm_P_out (by omega)⟩
        · exact absurd c_52 (nI_neN (by omega))
      · refine q_istore_n3 F dX7_done_48 (by decide) rfl ?_
        refine q_iload_n F 3 dX7_done_49 rfl rfl ?_
        refine q_ldc F dX7_done_50 wX7_193 ?_
        refine q_icmp_ne F 58 dX7_done_52 (by decide) (fun c_52 => ?_) (fun c_52 => ?_)
        · exact absurd rfl c_52
        · refine q_ldc F dX7_done_55 wX7_193 ?_
          refine K _ _ _ _ ?_ dX7_done_57 rfl
          have e : aDone T (nI j) (nI q) = (sNONE, T) := by
            unfold aDone
            rw [hx, if_neg (by simp [c_11, c_19]), if_pos hu]
          rw [e]
          exact ⟨rfl, hC.fr (fun o a b c d => vm_P_out (by omega)), fun o ho => vm_P_out (by omega)⟩
    · refine q_ldc F dX7_done_22 wX7_80 ?_
      refine K _ _ _ _ ?_ dX7_done_24 rfl
      have e : aDone T (nI j) w = (sBAD, T) := by
        simp [aDone, c_19]
      rw [e]
      exact ⟨rfl, hC, fun _ _ => rfl⟩
theorem sPush_pl {v : vm_V} {t : Nat × (Nat → vm_V)} (h : t.1 ≤ 24) : (sPush v t).1 = min (t.1 + 1) 24 := by
  unfold sPush
  by_cases c : t.1 < 24
  · rw [if_pos c]; show t.1 + 1 = _; omega
  · rw [if_neg c]; show 24 = _; omega
/-- a half kept and gone: the class's memory -/
theorem CInv.half {σ σ' : vm_M} {T : vm_T} (h : CInv σ T) {nx : Nat} (hnx : nx < 24) (p1 : σ 25 1 = nI nx) (p4 : ∀ i, i < T_pl T → isP σ (pastB nx (T_pl T) i) (T_pv T i)) (hpl : T_pl T ≤ 24)
    (e : σ' = vm_P (vm_upd (vm_upd (vm_P σ (27 + 6 * nx) (T_nw T)) 25 1 (nI ((nx + 1) % 24))) 25 2 (nI (min (T_pl T + 1) 24))) 5 (sH (T_nw T))) : CInv σ' (sT_now T (sH (T_nw T)) (sPush (T_nw T) (T_pl T, T_pv T)).1 (sPush (T_nw T) (T_pl T, T_pv T)).2) := by
  have hb : ∀ i, i < T_pl T → T_pl T ≤ 24 → 0 < T_pl T → (T_pl T < 24 ∨ 0 < i) → pastB nx (T_pl T) i ≠ 27 + 6 * nx := by
    intro i h1 h2 h3 h4
    unfold pastB
    omega
  have out : ∀ o, o ≠ 25 → ¬ (5 ≤ o ∧ o ≤ 10) → ¬ (27 + 6 * nx ≤ o ∧ o ≤ 27 + 6 * nx + 5) → σ' o = σ o := by
    intro o h1 h2 h3
    rw [e, vm_P_out (by omega), vm_upd_n _ _ _ h1, vm_upd_n _ _ _ h1, vm_P_out (by omega)]
  have slot : isP σ' (27 + 6 * nx) (T_nw T) :=
    (isP_P σ (27 + 6 * nx) (T_nw T)).fr (fun o a b => by rw [e, vm_P_out (by omega), vm_upd_n _ _ _ (by omega), vm_upd_n _ _ _ (by omega)])
  have s1 : σ' 25 1 = nI ((nx + 1) % 24) := by rw [e, vm_P_out (by omega)]; simp [vm_upd, upd]
  have s2 : σ' 25 2 = nI (min (T_pl T + 1) 24) := by rw [e, vm_P_out (by omega)]; simp [vm_upd, upd]
  have s3 : isP σ' 5 (sH (T_nw T)) := by rw [e]; exact isP_P _ _ _
  clear e
  have keep : ∀ i, i < T_pl T → pastB nx (T_pl T) i ≠ 27 + 6 * nx → isP σ' (pastB nx (T_pl T) i) (T_pv T i) := by
    intro i hi hne
    refine (p4 i hi).fr (fun o a b => out o ?_ ?_ ?_)
    · unfold pastB at a b; omega
    · unfold pastB at a b; omega
    · unfold pastB at a b hne; omega
  refine h.now s3 ⟨(nx + 1) % 24, Nat.mod_lt _ (by decide), s1, ?_, ?_, ?_⟩ (fun o a b => out o (by omega) a (by omega))
  · rw [sPush_pl hpl]; exact s2
  · rw [sPush_pl hpl]; exact Nat.min_le_right _ _
  · intro i hi
    rw [sPush_pl hpl] at hi ⊢
    show isP _ _ ((sPush (T_nw T) (T_pl T, T_pv T)).2 i)
    unfold sPush
    by_cases c : T_pl T < 24
    · rw [if_pos c]
      have hm : min (T_pl T + 1) 24 = T_pl T + 1 := by omega
      rw [hm] at hi ⊢
      show isP _ _ (vm_u (T_pv T) (T_pl T) (T_nw T) i)
      by_cases ei : i = T_pl T
      · subst ei
        rw [vm_u_s, show pastB ((nx + 1) % 24) (T_pl T + 1) (T_pl T) = 27 + 6 * nx by unfold pastB; omega]
        exact slot
      · rw [vm_u_n ei, show pastB ((nx + 1) % 24) (T_pl T + 1) i = pastB nx (T_pl T) i by unfold pastB; omega]
        exact keep i (by omega) (hb i (by omega) hpl (by omega) (Or.inl c))
    · rw [if_neg c]
      have e24 : T_pl T = 24 := by omega
      have hm : min (T_pl T + 1) 24 = 24 := by omega
      rw [hm] at hi ⊢
      show isP _ _ (if i < 23 then T_pv T (i + 1) else T_nw T)
      by_cases ei : i < 23
      · rw [if_pos ei, show pastB ((nx + 1) % 24) 24 i = pastB nx (T_pl T) (i + 1) by unfold pastB; omega]
        exact keep (i + 1) (by omega) (hb (i + 1) (by omega) hpl (by omega) (Or.inr (by omega)))
      · rw [if_neg ei, show pastB ((nx + 1) % 24) 24 i = 27 + 6 * nx by unfold pastB; omega]
        exact slot
set_option maxHeartbeats 4000000 in
set_option maxRecDepth 100000 in
theorem k_halves {G : vm_G} {σ : vm_M} {T : vm_T} (hC : CInv σ T) (hI : SInv T) (n : Int32) : vm_RI G 3 mX7_halves [.ref 0, .int n] σ (cPost σ (aHalves T n)) := by
  refine vm_int (y := mX7_halves) (by decide) (Nat.le_of_ble_eq_true rfl) (ls0 := [some (.ref 0), some (.int n), none, none]) rfl rfl (fun C F K => ?_)
  have F : vm_F G C cX7_halves RX7 4 _ := F
  show vm_Ex G C 4 0 [some (.ref 0), some (.int n), none, none] [] _
  obtain ⟨hRows, hTape, hNow, hPast, hImg, hTr, hFlt, hFnd, hDr⟩ := id hC
  have hN := hNow.2
  have hOk : sOk (T_nw T) := hI.1.1
  have hn6 : V_n (T_nw T) ≤ 6 := hOk.1
  refine q_aload_n F 0 dX7_halves_0 rfl rfl ?_
  refine gX7_64 F dX7_halves_1 sh_0 rfl ?_
  refine q_top (.int (bI (T_hp T))) (congrArg Value.int (hNow.1)) ?_
  refine b_ne F 10 dX7_halves_4 (by decide) (fun c_4 => ?_) (fun c_4 => ?_)
  · refine q_iload_n F 1 dX7_halves_10 rfl rfl ?_
    refine q_iconst F (nI 1) dX7_halves_11 (by decide) ?_
    refine q_icmp_lt F 21 dX7_halves_12 (by decide) (fun c_12 => ?_) (fun c_12 => ?_)
    · refine q_ldc F dX7_halves_21 wX7_80 ?_
      refine K _ _ _ _ ?_ dX7_halves_23 rfl
      have e : aHalves T n = (sBAD, T) := by
        unfold aHalves
        rw [if_neg (by simp [c_4]), if_pos (by rw [i_lt (by decide)] at c_12; omega)]
      rw [e]
      exact ⟨rfl, hC, fun _ _ => rfl⟩
    · refine q_iload_n F 1 dX7_halves_15 rfl rfl ?_
      refine q_bipush F (nI 60) dX7_halves_16 (by decide) ?_
      refine q_icmp_le F 24 dX7_halves_18 (by decide) (fun c_18 => ?_) (fun c_18 => ?_)
      · have hn1 : ¬ n.toInt < 1 := by rw [i_lt (by decide)] at c_12; exact c_12
        have hn60 : n.toInt ≤ 60 := by rw [i_le (by decide)] at c_18; exact c_18
        obtain ⟨m, hm, rfl⟩ := i_of (show 0 ≤ n.toInt by omega)
        have hxm := xN_nI hm
        have hm60 : m ≤ 60 := by rw [nI_toInt hm] at hn60; omega
        have hm1 : 1 ≤ m := by rw [nI_toInt hm] at hn1; omega
        have hgn := hI.2.2.1
        refine q_aload_n F 0 dX7_halves_24 rfl rfl ?_
        refine gX7_25 F dX7_halves_25 sh_0 rfl ?_
        refine gX7_153 F dX7_halves_28 path5.1 rfl ?_
        refine q_top (.int (nI (V_gn (T_nw T)))) (congrArg Value.int (hN.gn)) ?_
        refine q_iload_n F 1 dX7_halves_31 rfl rfl ?_
        refine n_iadd F dX7_halves_32 ?_
        refine q_sipush F (nI 9999) dX7_halves_33 (by decide) ?_
        refine n_le F 42 dX7_halves_36 (by decide) (by omega) (by omega) (fun c_36 => ?_) (fun c_36 => ?_)
        · refine q_aload_n F 0 dX7_halves_42 rfl rfl ?_
          refine gX7_25 F dX7_halves_43 sh_0 rfl ?_
          refine gX7_156 F dX7_halves_46 path5.1 rfl ?_
          refine q_top (.int (V_fin (T_nw T))) (congrArg Value.int (hN.fin)) ?_
          refine q_istore_n2 F dX7_halves_49 (by decide) rfl ?_
          refine q_iconst F (nI 0) dX7_halves_50 (by decide) ?_
          refine q_istore_n3 F dX7_halves_51 (by decide) rfl ?_
          have L : ∀ k i, ∀ σ2 : vm_M, CInv σ2 (sT_now T (sHs i (T_nw T)) (sPushs (T_nw T) (T_pl T, T_pv T) i).1 (sPushs (T_nw T) (T_pl T, T_pv T) i).2) → (∀ o, 202 ≤ o → σ2 o = σ o) → (sPushs (T_nw T) (T_pl T, T_pv T) i).1 ≤ 24 → i + k = m → vm_Ex G C 4 52 [some (.ref 0), some (.int (nI m)), some (.int (V_fin (T_nw T))), some (.int (nI i))] [] σ2 := by
            intro k
            induction k with
            | zero =>
              intro i σ2 g1 g2 g3 hi
              refine q_iload_n F 3 dX7_halves_52 rfl rfl ?_
              refine q_iload_n F 1 dX7_halves_53 rfl rfl ?_
              refine n_ge F 81 dX7_halves_54 (by decide) (by omega) (by omega) (fun c_54 => ?_) (fun c_54 => ?_)
              · refine q_aload_n F 0 dX7_halves_81 rfl rfl ?_
                refine gX7_25 F dX7_halves_82 sh_0 rfl ?_
                refine gX7_156 F dX7_halves_85 path5.1 rfl ?_
                refine q_top (.int (V_fin (sHs i (T_nw T)))) (congrArg Value.int (g1.2.2.1.2.fin)) ?_
                refine q_iload_n F 2 dX7_halves_88 rfl rfl ?_
                refine q_iconst F (-1) dX7_halves_89 (by decide) ?_
                refine q_ixor F dX7_halves_90 ?_
                refine q_iand F dX7_halves_91 ?_
                refine K _ _ _ _ ?_ dX7_halves_92 rfl
                have e : aHalves T (nI m) = (V_fin (sHs m (T_nw T)) &&& (V_fin (T_nw T) ^^^ (-1)), sT_now T (sHs m (T_nw T)) (sPushs (T_nw T) (T_pl T, T_pv T) m).1 (sPushs (T_nw T) (T_pl T, T_pv T) m).2) := by
                  unfold aHalves
                  rw [hxm, if_neg (by simp [c_4]), if_neg (by rw [nI_toInt (by omega)]; omega), if_neg (by omega)]
                rw [e]
                exact ⟨by rw [show i = m by omega], by rw [show i = m by omega] at g1; exact g1, g2⟩
              · omega
            | succ k ih =>
              intro i σ2 g1 g2 g3 hi
              refine q_iload_n F 3 dX7_halves_52 rfl rfl ?_
              refine q_iload_n F 1 dX7_halves_53 rfl rfl ?_
              refine n_ge F 81 dX7_halves_54 (by decide) (by omega) (by omega) (fun c_54 => ?_) (fun c_54 => ?_)
              · omega
              · obtain ⟨nx, hnx, p1, p2, p3, p4⟩ := g1.2.2.2.1
                refine q_aload_n F 0 dX7_halves_57 rfl rfl ?_
                refine gX7_46 F dX7_halves_58 sh_0 rfl ?_
                refine q_aload_n F 0 dX7_halves_61 rfl rfl ?_
                refine gX7_25 F dX7_halves_62 sh_0 rfl ?_
                refine iX7_159 F dX7_halves_65 (c_keep p1 hnx p2 p3 g1.2.2.1.2) (by decide) sh_25 rfl rfl (Nat.le_of_ble_eq_true rfl) (fun σ_65 h_65 => ?_)
                subst h_65
                refine q_aload_n F 0 dX7_halves_68 rfl rfl ?_
                refine gX7_25 F dX7_halves_69 sh_0 rfl ?_
                refine iX7_162 F dX7_halves_72 (d_half (v := sHs i (T_nw T)) (g1.2.2.1.2.fr (fun o a b => by rw [vm_upd_n _ _ _ (by omega), vm_upd_n _ _ _ (by omega), vm_P_out (by omega)])) path5 (sOk_Hs hOk i)) (by decide) path5.1 rfl rfl (Nat.le_of_ble_eq_true rfl) (fun σ_72 h_72 => ?_)
                subst h_72
                refine q_iinc3 F _ dX7_halves_75 (nI_inc _) (by decide) rfl ?_
                refine q_goto F 52 dX7_halves_78 (by decide) ?_
                exact ih (i + 1) _ (CInv.half g1 hnx p1 p4 p3 rfl) (fun o ho => by rw [vm_P_out (by omega), vm_upd_n _ _ _ (by omega), vm_upd_n _ _ _ (by omega), vm_P_out (by omega)]; exact g2 o ho) (by
                  show (sPush _ _).1 ≤ 24
                  rw [sPush_pl g3]
                  exact Nat.min_le_right _ _) (by omega)
          exact L m 0 _ hC (fun _ _ => rfl) hI.2.2.2.1 (by omega)
        · refine q_ldc F dX7_halves_39 wX7_124 ?_
          refine K _ _ _ _ ?_ dX7_halves_41 rfl
          have e : aHalves T (nI m) = (sFULL, T) := by
            unfold aHalves
            rw [hxm, if_neg (by simp [c_4]), if_neg (by rw [nI_toInt (by omega)]; omega), if_pos (by omega)]
          rw [e]
          exact ⟨rfl, hC, fun _ _ => rfl⟩
      · refine q_ldc F dX7_halves_21 wX7_80 ?_
        refine K _ _ _ _ ?_ dX7_halves_23 rfl
        have e : aHalves T n = (sBAD, T) := by
          unfold aHalves
          rw [if_neg (by simp [c_4]), if_pos (by rw [i_le (by decide)] at c_18; omega)]
        rw [e]
        exact ⟨rfl, hC, fun _ _ => rfl⟩
  · refine q_ldc F dX7_halves_7 wX7_152 ?_
    refine K _ _ _ _ ?_ dX7_halves_9 rfl
    have e : aHalves T n = (sSTATE, T) := by
      simp [aHalves, c_4]
    rw [e]
    exact ⟨rfl, hC, fun _ _ => rfl⟩
