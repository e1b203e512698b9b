set_option maxHeartbeats 4000000 in
set_option maxRecDepth 100000 in
theorem c_turn {G : vm_G} {σ : vm_M} {b : Nat} (hb : vm_pathAt b) {kd : Nat → Nat} {gl sp : Nat → Int32} {wy : Nat → Bool} {er : Nat → Nat} {top law n gn : Nat} {fin : Int32} {p : Nat} (hp : p < 6) : vm_RV G 0 mX2_turn [.ref b, .int (nI p)] (vm_P σ b (kd, gl, sp, wy, er, top, law, n, gn, fin)) (fun σ' => σ' = vm_P σ b (kd, gl, sp, vm_u wy p (!wy p), er, top, law, n, gn, fin)) := by
  refine vm_void (y := mX2_turn) (by decide) (Nat.le_of_ble_eq_true rfl) (ls0 := [some (.ref b), some (.int (nI p))]) rfl rfl (fun C F K => ?_)
  have F : vm_F G C cX2_turn RX2 2 _ := F
  show vm_Ex G C 2 0 [some (.ref b), some (.int (nI p))] [] _
  refine q_aload_n F 0 dX2_turn_0 rfl rfl ?_
  refine gpX2_21 F dX2_turn_1 hb ?_
  refine q_iload_n F 1 dX2_turn_4 rfl rfl ?_
  refine q_aload_n F 0 dX2_turn_5 rfl rfl ?_
  refine gpX2_21 F dX2_turn_6 hb ?_
  refine q_iload_n F 1 dX2_turn_9 rfl rfl ?_
  refine ld_wy F dX2_turn_10 hb (by omega) ?_
  refine q_iconst F (nI 1) dX2_turn_11 (by decide) ?_
  refine b1_ne F 19 dX2_turn_12 (by decide) (fun c_12 => ?_) (fun c_12 => ?_)
  · refine q_iconst F (nI 1) dX2_turn_19 (by decide) ?_
    refine q_top (.int (bI true)) (congrArg Value.int (by decide)) ?_
    refine sto_wy F dX2_turn_20 hb (by omega) ?_
    refine K _ _ _ ?_ dX2_turn_21
    simp [c_12]
  · refine q_iconst F (nI 0) dX2_turn_15 (by decide) ?_
    refine q_goto F 20 dX2_turn_16 (by decide) ?_
    refine q_top (.int (bI false)) (congrArg Value.int (by decide)) ?_
    refine sto_wy F dX2_turn_20 hb (by omega) ?_
    refine K _ _ _ ?_ dX2_turn_21
    simp [c_12]
set_option maxHeartbeats 4000000 in
set_option maxRecDepth 100000 in
theorem c_walk {G : vm_G} {σ : vm_M} {b : Nat} (hb : vm_pathAt b) {kd : Nat → Nat} {gl sp : Nat → Int32} {wy : Nat → Bool} {er : Nat → Nat} {top law n gn : Nat} {fin : Int32} {p : Nat} (hp : p < 6) : vm_RV G 1 mX2_walk [.ref b, .int (nI p)] (vm_P σ b (kd, gl, sp, wy, er, top, law, n, gn, fin)) (fun σ' => σ' = vm_P σ b (kd, gl, (sW top p (sp, wy)).1, (sW top p (sp, wy)).2, er, top, law, n, gn, fin)) := by
  refine vm_void (y := mX2_walk) (by decide) (Nat.le_of_ble_eq_true rfl) (ls0 := [some (.ref b), some (.int (nI p))]) rfl rfl (fun C F K => ?_)
  have F : vm_F G C cX2_walk RX2 2 _ := F
  show vm_Ex G C 2 0 [some (.ref b), some (.int (nI p))] [] _
  refine q_aload_n F 0 dX2_walk_0 rfl rfl ?_
  refine gpX2_18 F dX2_walk_1 hb ?_
  refine q_iload_n F 1 dX2_walk_4 rfl rfl ?_
  refine ld_sp F dX2_walk_5 hb (by omega) ?_
  refine q_aload_n F 0 dX2_walk_6 rfl rfl ?_
  refine gpX2_21 F dX2_walk_7 hb ?_
  refine q_iload_n F 1 dX2_walk_10 rfl rfl ?_
  refine ld_wy F dX2_walk_11 hb (by omega) ?_
  refine q_iconst F (nI 1) dX2_walk_12 (by decide) ?_
  refine b1_ne F 23 dX2_walk_13 (by decide) (fun c_13 => ?_) (fun c_13 => ?_)
  · refine q_iconst F (nI 0) dX2_walk_23 (by decide) ?_
    refine q_icmp_ne F 32 dX2_walk_24 (by decide) (fun c_24 => ?_) (fun c_24 => ?_)
    · refine q_aload_n F 0 dX2_walk_32 rfl rfl ?_
      refine gpX2_18 F dX2_walk_33 hb ?_
      refine q_iload_n F 1 dX2_walk_36 rfl rfl ?_
      refine q_dup2 F dX2_walk_37 rfl rfl ?_
      refine ld_sp F dX2_walk_38 hb (by omega) ?_
      refine q_aload_n F 0 dX2_walk_39 rfl rfl ?_
      refine gpX2_21 F dX2_walk_40 hb ?_
      refine q_iload_n F 1 dX2_walk_43 rfl rfl ?_
      refine ld_wy F dX2_walk_44 hb (by omega) ?_
      refine q_iconst F (nI 1) dX2_walk_45 (by decide) ?_
      refine b1_ne F 53 dX2_walk_46 (by decide) (fun c_46 => ?_) (fun c_46 => ?_)
      · refine q_iconst F (-1) dX2_walk_53 (by decide) ?_
        refine q_iadd F dX2_walk_54 ?_
        refine sto_sp F dX2_walk_55 hb (by omega) ?_
        refine K _ _ _ ?_ dX2_walk_56
        (try simp only [vm_u_s, c_13, c_24, c_46] at c_46)
        have hw := vm_u_same wy p
        simp_all [sW]
      · refine q_iconst F (nI 1) dX2_walk_49 (by decide) ?_
        refine q_goto F 54 dX2_walk_50 (by decide) ?_
        refine q_iadd F dX2_walk_54 ?_
        refine sto_sp F dX2_walk_55 hb (by omega) ?_
        refine K _ _ _ ?_ dX2_walk_56
        (try simp only [vm_u_s, c_13, c_24, c_46] at c_46)
        have hw := vm_u_same wy p
        simp_all [sW]
    · refine q_aload_n F 0 dX2_walk_27 rfl rfl ?_
      refine q_iload_n F 1 dX2_walk_28 rfl rfl ?_
      refine iX2_67 F dX2_walk_29 (c_turn hb hp) (by decide) hb.1 rfl rfl (Nat.le_of_ble_eq_true rfl) (fun σ_29 h_29 => ?_)
      subst h_29
      refine q_aload_n F 0 dX2_walk_32 rfl rfl ?_
      refine gpX2_18 F dX2_walk_33 hb ?_
      refine q_iload_n F 1 dX2_walk_36 rfl rfl ?_
      refine q_dup2 F dX2_walk_37 rfl rfl ?_
      refine ld_sp F dX2_walk_38 hb (by omega) ?_
      refine q_aload_n F 0 dX2_walk_39 rfl rfl ?_
      refine gpX2_21 F dX2_walk_40 hb ?_
      refine q_iload_n F 1 dX2_walk_43 rfl rfl ?_
      refine ld_wy F dX2_walk_44 hb (by omega) ?_
      refine q_iconst F (nI 1) dX2_walk_45 (by decide) ?_
      refine b1_ne F 53 dX2_walk_46 (by decide) (fun c_46 => ?_) (fun c_46 => ?_)
      · refine q_iconst F (-1) dX2_walk_53 (by decide) ?_
        refine q_iadd F dX2_walk_54 ?_
        refine sto_sp F dX2_walk_55 hb (by omega) ?_
        refine K _ _ _ ?_ dX2_walk_56
        (try simp only [vm_u_s, c_13, c_24, c_46] at c_46)
        have hw := vm_u_same wy p
        simp_all [sW]
      · refine q_iconst F (nI 1) dX2_walk_49 (by decide) ?_
        refine q_goto F 54 dX2_walk_50 (by decide) ?_
        refine q_iadd F dX2_walk_54 ?_
        refine sto_sp F dX2_walk_55 hb (by omega) ?_
        refine K _ _ _ ?_ dX2_walk_56
        (try simp only [vm_u_s, c_13, c_24, c_46] at c_46)
        have hw := vm_u_same wy p
        simp_all [sW]
  · refine q_aload_n F 0 dX2_walk_16 rfl rfl ?_
    refine gpX2_27 F dX2_walk_17 hb ?_
    refine q_goto F 24 dX2_walk_20 (by decide) ?_
    refine q_icmp_ne F 32 dX2_walk_24 (by decide) (fun c_24 => ?_) (fun c_24 => ?_)
    · refine q_aload_n F 0 dX2_walk_32 rfl rfl ?_
      refine gpX2_18 F dX2_walk_33 hb ?_
      refine q_iload_n F 1 dX2_walk_36 rfl rfl ?_
      refine q_dup2 F dX2_walk_37 rfl rfl ?_
      refine ld_sp F dX2_walk_38 hb (by omega) ?_
      refine q_aload_n F 0 dX2_walk_39 rfl rfl ?_
      refine gpX2_21 F dX2_walk_40 hb ?_
      refine q_iload_n F 1 dX2_walk_43 rfl rfl ?_
      refine ld_wy F dX2_walk_44 hb (by omega) ?_
      refine q_iconst F (nI 1) dX2_walk_45 (by decide) ?_
      refine b1_ne F 53 dX2_walk_46 (by decide) (fun c_46 => ?_) (fun c_46 => ?_)
      · refine q_iconst F (-1) dX2_walk_53 (by decide) ?_
        refine q_iadd F dX2_walk_54 ?_
        refine sto_sp F dX2_walk_55 hb (by omega) ?_
        refine K _ _ _ ?_ dX2_walk_56
        (try simp only [vm_u_s, c_13, c_24, c_46] at c_46)
        have hw := vm_u_same wy p
        simp_all [sW]
      · refine q_iconst F (nI 1) dX2_walk_49 (by decide) ?_
        refine q_goto F 54 dX2_walk_50 (by decide) ?_
        refine q_iadd F dX2_walk_54 ?_
        refine sto_sp F dX2_walk_55 hb (by omega) ?_
        refine K _ _ _ ?_ dX2_walk_56
        (try simp only [vm_u_s, c_13, c_24, c_46] at c_46)
        have hw := vm_u_same wy p
        simp_all [sW]
    · refine q_aload_n F 0 dX2_walk_27 rfl rfl ?_
      refine q_iload_n F 1 dX2_walk_28 rfl rfl ?_
      refine iX2_67 F dX2_walk_29 (c_turn hb hp) (by decide) hb.1 rfl rfl (Nat.le_of_ble_eq_true rfl) (fun σ_29 h_29 => ?_)
      subst h_29
      refine q_aload_n F 0 dX2_walk_32 rfl rfl ?_
      refine gpX2_18 F dX2_walk_33 hb ?_
      refine q_iload_n F 1 dX2_walk_36 rfl rfl ?_
      refine q_dup2 F dX2_walk_37 rfl rfl ?_
      refine ld_sp F dX2_walk_38 hb (by omega) ?_
      refine q_aload_n F 0 dX2_walk_39 rfl rfl ?_
      refine gpX2_21 F dX2_walk_40 hb ?_
      refine q_iload_n F 1 dX2_walk_43 rfl rfl ?_
      refine ld_wy F dX2_walk_44 hb (by omega) ?_
      refine q_iconst F (nI 1) dX2_walk_45 (by decide) ?_
      refine b1_ne F 53 dX2_walk_46 (by decide) (fun c_46 => ?_) (fun c_46 => ?_)
      · refine q_iconst F (-1) dX2_walk_53 (by decide) ?_
        refine q_iadd F dX2_walk_54 ?_
        refine sto_sp F dX2_walk_55 hb (by omega) ?_
        refine K _ _ _ ?_ dX2_walk_56
        (try simp only [vm_u_s, c_13, c_24, c_46] at c_46)
        have hw := vm_u_same wy p
        simp_all [sW]
      · refine q_iconst F (nI 1) dX2_walk_49 (by decide) ?_
        refine q_goto F 54 dX2_walk_50 (by decide) ?_
        refine q_iadd F dX2_walk_54 ?_
        refine sto_sp F dX2_walk_55 hb (by omega) ?_
        refine K _ _ _ ?_ dX2_walk_56
        (try simp only [vm_u_s, c_13, c_24, c_46] at c_46)
        have hw := vm_u_same wy p
        simp_all [sW]
set_option maxHeartbeats 4000000 in
set_option maxRecDepth 100000 in
theorem c_doMeet {G : vm_G} {σ : vm_M} {b : Nat} (hb : vm_pathAt b) {kd : Nat → Nat} {gl sp : Nat → Int32} {wy : Nat → Bool} {er : Nat → Nat} {top law n gn : Nat} {fin : Int32} {p q : Nat} (hp : p < 6) (hq : q < 6) (hkp : kd p < 2 ^ 31) (hkq : kd q < 2 ^ 31) : vm_RI G 0 mX2_doMeet [.ref b, .int (nI p), .int (nI q)] (vm_P σ b (kd, gl, sp, wy, er, top, law, n, gn, fin)) (fun v σ' => v = bI (sDM kd sp wy p q) ∧ σ' = vm_P σ b (kd, gl, sp, wy, er, top, law, n, gn, fin)) := by
  refine vm_int (y := mX2_doMeet) (by decide) (Nat.le_of_ble_eq_true rfl) (ls0 := [some (.ref b), some (.int (nI p)), some (.int (nI q))]) rfl rfl (fun C F K => ?_)
  have F : vm_F G C cX2_doMeet RX2 3 _ := F
  show vm_Ex G C 3 0 [some (.ref b), some (.int (nI p)), some (.int (nI q))] [] _
  refine q_aload_n F 0 dX2_doMeet_0 rfl rfl ?_
  refine gpX2_9 F dX2_doMeet_1 hb ?_
  refine q_iload_n F 1 dX2_doMeet_4 rfl rfl ?_
  refine ld_kd F dX2_doMeet_5 hb (by omega) ?_
  refine q_iconst F (nI 5) dX2_doMeet_6 (by decide) ?_
  refine n_eq F 54 dX2_doMeet_7 (by decide) (by omega) (by omega) (fun c_7 => ?_) (fun c_7 => ?_)
  · refine q_iconst F (nI 0) dX2_doMeet_54 (by decide) ?_
    refine K _ _ _ _ ?_ dX2_doMeet_55 (by decide)
    refine ⟨?_, rfl⟩
    simp [sDM, bI, nI_one, nI_0, c_7]
  · refine q_aload_n F 0 dX2_doMeet_10 rfl rfl ?_
    refine gpX2_9 F dX2_doMeet_11 hb ?_
    refine q_iload_n F 2 dX2_doMeet_14 rfl rfl ?_
    refine ld_kd F dX2_doMeet_15 hb (by omega) ?_
    refine q_iconst F (nI 5) dX2_doMeet_16 (by decide) ?_
    refine n_eq F 54 dX2_doMeet_17 (by decide) (by omega) (by omega) (fun c_17 => ?_) (fun c_17 => ?_)
    · refine q_iconst F (nI 0) dX2_doMeet_54 (by decide) ?_
      refine K _ _ _ _ ?_ dX2_doMeet_55 (by decide)
      refine ⟨?_, rfl⟩
      simp [sDM, bI, nI_one, nI_0, c_7, c_17]
    · refine q_aload_n F 0 dX2_doMeet_20 rfl rfl ?_
      refine gpX2_18 F dX2_doMeet_21 hb ?_
      refine q_iload_n F 1 dX2_doMeet_24 rfl rfl ?_
      refine ld_sp F dX2_doMeet_25 hb (by omega) ?_
      refine q_aload_n F 0 dX2_doMeet_26 rfl rfl ?_
      refine gpX2_18 F dX2_doMeet_27 hb ?_
      refine q_iload_n F 2 dX2_doMeet_30 rfl rfl ?_
      refine ld_sp F dX2_doMeet_31 hb (by omega) ?_
      refine q_icmp_ne F 54 dX2_doMeet_32 (by decide) (fun c_32 => ?_) (fun c_32 => ?_)
      · refine q_iconst F (nI 0) dX2_doMeet_54 (by decide) ?_
        refine K _ _ _ _ ?_ dX2_doMeet_55 (by decide)
        refine ⟨?_, rfl⟩
        simp [sDM, bI, nI_one, nI_0, c_7, c_17, c_32]
      · refine q_aload_n F 0 dX2_doMeet_35 rfl rfl ?_
        refine gpX2_21 F dX2_doMeet_36 hb ?_
        refine q_iload_n F 1 dX2_doMeet_39 rfl rfl ?_
        refine ld_wy F dX2_doMeet_40 hb (by omega) ?_
        refine q_aload_n F 0 dX2_doMeet_41 rfl rfl ?_
        refine gpX2_21 F dX2_doMeet_42 hb ?_
        refine q_iload_n F 2 dX2_doMeet_45 rfl rfl ?_
        refine ld_wy F dX2_doMeet_46 hb (by omega) ?_
        refine bb_eq F 54 dX2_doMeet_47 (by decide) (fun c_47 => ?_) (fun c_47 => ?_)
        · refine q_iconst F (nI 0) dX2_doMeet_54 (by decide) ?_
          refine K _ _ _ _ ?_ dX2_doMeet_55 (by decide)
          refine ⟨?_, rfl⟩
          simp [sDM, bI, nI_one, nI_0, c_7, c_17, c_32, c_47]
        · refine q_iconst F (nI 1) dX2_doMeet_50 (by decide) ?_
          refine q_goto F 55 dX2_doMeet_51 (by decide) ?_
          refine K _ _ _ _ ?_ dX2_doMeet_55 (by decide)
          refine ⟨?_, rfl⟩
          simp [sDM, bI, nI_one, nI_0, c_7, c_17, c_32, c_47]
set_option maxHeartbeats 4000000 in
set_option maxRecDepth 100000 in
theorem c_meet {G : vm_G} {σ : vm_M} {b : Nat} (hb : vm_pathAt b) {kd : Nat → Nat} {gl sp : Nat → Int32} {wy : Nat → Bool} {er : Nat → Nat} {top law n gn : Nat} {fin : Int32} {p q : Nat} (hp : p < 6) (hq : q < 6) (hl : law < 2 ^ 31) : vm_RV G 1 mX2_meet [.ref b, .int (nI p), .int (nI q)] (vm_P σ b (kd, gl, sp, wy, er, top, law, n, gn, fin)) (fun σ' => σ' = vm_P σ b (kd, gl, sp, (sM law p q (wy, er)).1, (sM law p q (wy, er)).2, top, law, n, gn, fin)) := by
  refine vm_void (y := mX2_meet) (by decide) (Nat.le_of_ble_eq_true rfl) (ls0 := [some (.ref b), some (.int (nI p)), some (.int (nI q)), none]) rfl rfl (fun C F K => ?_)
  have F : vm_F G C cX2_meet RX2 4 _ := F
  show vm_Ex G C 4 0 [some (.ref b), some (.int (nI p)), some (.int (nI q)), none] [] _
  refine q_aload_n F 0 dX2_meet_0 rfl rfl ?_
  refine gpX2_31 F dX2_meet_1 hb ?_
  refine q_iconst F (nI 1) dX2_meet_4 (by decide) ?_
  refine n_ne F 9 dX2_meet_5 (by decide) (by omega) (by omega) (fun c_5 => ?_) (fun c_5 => ?_)
  · refine q_aload_n F 0 dX2_meet_9 rfl rfl ?_
    refine gpX2_24 F dX2_meet_10 hb ?_
    refine q_iload_n F 1 dX2_meet_13 rfl rfl ?_
    refine ld_er F dX2_meet_14 hb (by omega) ?_
    refine q_istore_n3 F dX2_meet_15 (by decide) rfl ?_
    refine q_aload_n F 0 dX2_meet_16 rfl rfl ?_
    refine gpX2_24 F dX2_meet_17 hb ?_
    refine q_iload_n F 1 dX2_meet_20 rfl rfl ?_
    refine q_aload_n F 0 dX2_meet_21 rfl rfl ?_
    refine gpX2_24 F dX2_meet_22 hb ?_
    refine q_iload_n F 2 dX2_meet_25 rfl rfl ?_
    refine ld_er F dX2_meet_26 hb (by omega) ?_
    refine sto_er F dX2_meet_27 hb (by omega) ?_
    refine q_aload_n F 0 dX2_meet_28 rfl rfl ?_
    refine gpX2_24 F dX2_meet_29 hb ?_
    refine q_iload_n F 2 dX2_meet_32 rfl rfl ?_
    refine q_iload_n F 3 dX2_meet_33 rfl rfl ?_
    refine sto_er F dX2_meet_34 hb (by omega) ?_
    refine q_aload_n F 0 dX2_meet_35 rfl rfl ?_
    refine gpX2_31 F dX2_meet_36 hb ?_
    refine z_ne F 52 dX2_meet_39 (by decide) (by omega) (fun c_39 => ?_) (fun c_39 => ?_)
    · refine K _ _ _ ?_ dX2_meet_52
      simp [sM, c_5, c_39]
    · refine q_aload_n F 0 dX2_meet_42 rfl rfl ?_
      refine q_iload_n F 1 dX2_meet_43 rfl rfl ?_
      refine iX2_67 F dX2_meet_44 (c_turn hb hp) (by decide) hb.1 rfl rfl (Nat.le_of_ble_eq_true rfl) (fun σ_44 h_44 => ?_)
      subst h_44
      refine q_aload_n F 0 dX2_meet_47 rfl rfl ?_
      refine q_iload_n F 2 dX2_meet_48 rfl rfl ?_
      refine iX2_67 F dX2_meet_49 (c_turn hb hq) (by decide) hb.1 rfl rfl (Nat.le_of_ble_eq_true rfl) (fun σ_49 h_49 => ?_)
      subst h_49
      refine K _ _ _ ?_ dX2_meet_52
      simp [sM, c_5, c_39]
  · refine K _ _ _ ?_ dX2_meet_8
    simp [sM, c_5]
set_option maxHeartbeats 4000000 in
set_option maxRecDepth 100000 in
theorem c_finish {G : vm_G} {σ : vm_M} {b : Nat} (hb : vm_pathAt b) {kd : Nat → Nat} {gl sp : Nat → Int32} {wy : Nat → Bool} {er : Nat → Nat} {top law n gn : Nat} {fin : Int32} (hn : n ≤ 6) (hE : ∀ p, p < n → er p < 6) : vm_RV G 0 mX2_finish [.ref b] (vm_P σ b (kd, gl, sp, wy, er, top, law, n, gn, fin)) (fun σ' => σ' = vm_P σ b (kd, gl, sp, wy, er, top, law, n, gn, sC gl sp er n fin)) := by
  refine vm_void (y := mX2_finish) (by decide) (Nat.le_of_ble_eq_true rfl) (ls0 := [some (.ref b), none]) rfl rfl (fun C F K => ?_)
  have F : vm_F G C cX2_finish RX2 2 _ := F
  show vm_Ex G C 2 0 [some (.ref b), none] [] _
  have L : ∀ k i, i + k = n → vm_Ex G C 2 2 [some (.ref b), some (.int (nI i))] [] (vm_P σ b (kd, gl, sp, wy, er, top, law, n, gn, sC gl sp er i fin)) := by
    intro k
    induction k with
    | zero =>
      intro i hi
      refine q_iload_n F 1 dX2_finish_2 rfl rfl ?_
      refine q_aload_n F 0 dX2_finish_3 rfl rfl ?_
      refine gpX2_34 F dX2_finish_4 hb ?_
      refine n_ge F 53 dX2_finish_7 (by decide) (by omega) (by omega) (fun c_7 => ?_) (fun c_7 => ?_)
      · refine K _ _ _ ?_ dX2_finish_53
        rw [show i = n by omega]
      · omega
    | succ k ih =>
      intro i hi
      have h6 := hE i (by omega)
      refine q_iload_n F 1 dX2_finish_2 rfl rfl ?_
      refine q_aload_n F 0 dX2_finish_3 rfl rfl ?_
      refine gpX2_34 F dX2_finish_4 hb ?_
      refine n_ge F 53 dX2_finish_7 (by decide) (by omega) (by omega) (fun c_7 => ?_) (fun c_7 => ?_)
      · omega
      · refine q_aload_n F 0 dX2_finish_10 rfl rfl ?_
        refine gpX2_18 F dX2_finish_11 hb ?_
        refine q_iload_n F 1 dX2_finish_14 rfl rfl ?_
        refine ld_sp F dX2_finish_15 hb (by omega) ?_
        refine q_aload_n F 0 dX2_finish_16 rfl rfl ?_
        refine gpX2_15 F dX2_finish_17 hb ?_
        refine q_aload_n F 0 dX2_finish_20 rfl rfl ?_
        refine gpX2_24 F dX2_finish_21 hb ?_
        refine q_iload_n F 1 dX2_finish_24 rfl rfl ?_
        refine ld_er F dX2_finish_25 hb (by omega) ?_
        refine ld_gl F dX2_finish_26 hb (by omega) ?_
        refine q_icmp_ne F 47 dX2_finish_27 (by decide) (fun c_27 => ?_) (fun c_27 => ?_)
        · refine q_iinc1 F _ dX2_finish_47 (nI_inc _) (by decide) rfl ?_
          refine q_goto F 2 dX2_finish_50 (by decide) ?_
          have hh := ih (i + 1) (by omega)
          simp only [sC] at hh
          first
            | (rw [if_pos c_27] at hh; exact hh)
            | (rw [if_neg c_27] at hh; exact hh)
        · refine q_aload_n F 0 dX2_finish_30 rfl rfl ?_
          refine q_dup F dX2_finish_31 rfl ?_
          refine gpX2_40 F dX2_finish_32 hb ?_
          refine q_iconst F (nI 1) dX2_finish_35 (by decide) ?_
          refine q_aload_n F 0 dX2_finish_36 rfl rfl ?_
          refine gpX2_24 F dX2_finish_37 hb ?_
          refine q_iload_n F 1 dX2_finish_40 rfl rfl ?_
          refine ld_er F dX2_finish_41 hb (by omega) ?_
          refine q_ishl F dX2_finish_42 ?_
          refine q_ior F dX2_finish_43 ?_
          refine ppX2_40 F dX2_finish_44 hb ?_
          refine q_iinc1 F _ dX2_finish_47 (nI_inc _) (by decide) rfl ?_
          refine q_goto F 2 dX2_finish_50 (by decide) ?_
          have hh := ih (i + 1) (by omega)
          simp only [sC] at hh
          first
            | (rw [if_pos c_27] at hh; exact hh)
            | (rw [if_neg c_27] at hh; exact hh)
  refine q_iconst F (nI 0) dX2_finish_0 (by decide) ?_
  refine q_istore_n1 F dX2_finish_1 (by decide) rfl ?_
  exact L n 0 (by omega)
