/-- fault (0: none), its token, people told: from person p on, m more at most -/
def rAll (tl : Nat) (tb : Nat → Nat) : Nat → Nat → Nat × Nat × Nat
  | 0, p => if tTy tl tb (tQ tl tb (4 + 6 * p)) = 0 then (0, 0, p) else ((if qW tl tb (4 + 6 * p) 0 = true then 3 else 1), 4 + 6 * p, p)
  | m + 1, p =>
    if tTy tl tb (tQ tl tb (4 + 6 * p)) = 0 then (0, 0, p)
    else if qW tl tb (4 + 6 * p) 0 = true then
      if (rOne tl tb p (4 + 6 * p)).1 = 0 then rAll tl tb m (p + 1) else ((rOne tl tb p (4 + 6 * p)).1, (rOne tl tb p (4 + 6 * p)).2, p)
    else (1, 4 + 6 * p, p)
def rRead (tl : Nat) (tb : Nat → Nat) : Nat × Nat × Nat := if (rLane tl tb).1 = 0 then rAll tl tb 6 0 else ((rLane tl tb).1, (rLane tl tb).2, 0)
def vFin (w : vm_V) : vm_V := (V_kd w, V_gl w, V_sp w, V_wy w, V_er w, V_top w, V_law w, V_n w, V_gn w, sC (V_gl w) (V_sp w) (V_er w) (V_n w) (V_fin w))
set_option maxHeartbeats 4000000 in
set_option maxRecDepth 100000 in
theorem c_reads {G : vm_G} {σ : vm_M} {tl : Nat} {tb : Nat → Nat} (hT : cTape σ tl tb) {kd : Nat → Nat} {gl sp : Nat → Int32} {wy : Nat → Bool} {er : Nat → Nat} {top law n gn : Nat} {fin : Int32} {a f t v x : Nat} (hK : ∀ p, kd p < 6) : vm_RI G 7 mX3_reads [.ref 2, .ref 11] (vm_Rd (vm_P σ 11 (kd, gl, sp, wy, er, top, law, n, gn, fin)) (a, f, t, v, x)) (fun r σ' => ∃ v' a2 f2 t2 v2 x2, σ' = vm_Rd (vm_P σ 11 v') (a2, f2, t2, v2, x2) ∧ r = bI (decide ((rRead tl tb).1 = 0)) ∧ (∀ p, V_kd v' p < 6) ∧ ((rRead tl tb).1 = 0 → ∃ w, vGood tl tb w (rRead tl tb).2.2 ∧ (rRead tl tb).2.2 ≤ 6 ∧ v' = vFin w) ∧ ((rRead tl tb).1 ≠ 0 → f2 = tQ tl tb (rRead tl tb).2.1 ∧ x2 = (rRead tl tb).1)) := by
  refine vm_int (y := mX3_reads) (by decide) (Nat.le_of_ble_eq_true rfl) (ls0 := [some (.ref 2), some (.ref 11), none]) rfl rfl (fun C F K => ?_)
  have F : vm_F G C cX3_reads RX3 3 _ := F
  show vm_Ex G C 3 0 [some (.ref 2), some (.ref 11), none] [] _
  refine q_aload_n F 0 dX3_reads_0 rfl rfl ?_
  refine q_iconst F (nI 0) dX3_reads_1 (by decide) ?_
  refine prX3_18 F dX3_reads_2 ?_
  refine q_aload_n F 0 dX3_reads_5 rfl rfl ?_
  refine q_aload_n F 1 dX3_reads_6 rfl rfl ?_
  refine iX3_34 F dX3_reads_7 (c_readsLane hT) (by decide) sh_2 rfl rfl (Nat.le_of_ble_eq_true rfl) (fun v_7 σ_7 h_7 => ?_)
  obtain ⟨⟨kd1, gl1, sp1, wy1, er1, top1, law1, n1, gn1, fin1⟩, a2, f2, t2, v2, x2, hs0, hv0, hkd, hok, hbad⟩ := h_7
  obtain rfl := hs0.symm
  obtain rfl := hv0.symm
  clear hs0 hv0
  have hkq : ∀ p, kd1 p < 6 := fun p => by rw [show kd1 = kd from hkd]; exact hK p
  refine b_ne F 15 dX3_reads_10 (by decide) (fun c_10 => ?_) (fun c_10 => ?_)
  · have c_10 := of_decide_eq_true c_10
    obtain ⟨hG1, ea⟩ := hok c_10
    obtain rfl := ea.symm
    obtain rfl : 0 = n1 := hG1.2.2.1.symm
    refine q_aload_n F 0 dX3_reads_15 rfl rfl ?_
    refine iX3_38 F dX3_reads_16 (t_next hT.P (k := 3) (k' := 4 + 6 * 0) rfl) (by decide) sh_2 rfl rfl (Nat.le_of_ble_eq_true rfl) (fun σ_16 h_16 => ?_)
    obtain ⟨⟨a16, f16, t16, v16, x16⟩, hs0, ⟨e1, e2, e3, -, -⟩, e6⟩ := h_16
    obtain rfl := hs0.symm
    dsimp only at e1 e2 e3 e6
    obtain rfl := e1.symm
    obtain rfl := e2.symm
    obtain rfl := e3.symm
    obtain rfl := e6.symm
    clear hs0 e1 e2 e3 e6
    refine q_iconst F (nI 0) dX3_reads_19 (by decide) ?_
    refine q_istore_n2 F dX3_reads_20 (by decide) rfl ?_
    have L : ∀ m n, n + m = 6 → rRead tl tb = rAll tl tb m n → ∀ (kd : Nat → Nat) (gl sp : Nat → Int32) (wy : Nat → Bool) (er : Nat → Nat) (top law gn : Nat) (fin : Int32) (v x : Nat), vGood tl tb (kd, gl, sp, wy, er, top, law, n, gn, fin) n → (∀ p, kd p < 6) → vm_Ex G C 3 21 [some (.ref 2), some (.ref 11), some (.int (nI n))] [] (vm_Rd (vm_P σ 11 (kd, gl, sp, wy, er, top, law, n, gn, fin)) ((tEnd tl tb (tQ tl tb (4 + 6 * n))), (tQ tl tb (4 + 6 * n)), tTy tl tb (tQ tl tb (4 + 6 * n)), v, x)) := by
      intro m
      induction m with
      | zero =>
        intro n hi hR kd gl sp wy er top law gn fin v x hG hK
        refine q_iload_n F 2 dX3_reads_21 rfl rfl ?_
        refine q_bipush F (nI 6) dX3_reads_22 (by decide) ?_
        refine n_ge F 70 dX3_reads_24 (by decide) (by omega) (by omega) (fun c_24 => ?_) (fun c_24 => ?_)
        · refine q_aload_n F 0 dX3_reads_70 rfl rfl ?_
          refine grX3_25 F dX3_reads_71 ?_
          refine z_eq F 96 dX3_reads_74 (by decide) (Nat.lt_of_le_of_lt (tTy_le _ _ _) (by decide)) (fun c_74 => ?_) (fun c_74 => ?_)
          · refine q_aload_n F 1 dX3_reads_96 rfl rfl ?_
            rw [vm_RP]
            refine iX3_55 F dX3_reads_97 (c_finish path11 (by omega) (fun p hp => by obtain ⟨-, -, -, -, -, -, -, -, g9⟩ := hG; rw [show er p = p from (g9 p hp).2.2.2.2.1]; omega)) (by decide) path11.1 rfl rfl (Nat.le_of_ble_eq_true rfl) (fun σ_97 h_97 => ?_)
            subst h_97
            rw [← vm_RP]
            refine q_iconst F (nI 1) dX3_reads_100 (by decide) ?_
            refine K _ _ _ _ ?_ dX3_reads_101 (by decide)
            have e9 : rRead tl tb = (0, 0, n) := hR.trans (by rw [rAll, if_pos c_74])
            rw [e9]
            dsimp only
            clear e9 K
            exact ⟨_, _, _, _, _, _, rfl, by simp [bI, nI_one], hK, fun _ => ⟨_, hG, by omega, rfl⟩, fun z => absurd rfl z⟩
          · refine q_aload_n F 0 dX3_reads_77 rfl rfl ?_
            refine q_aload_n F 0 dX3_reads_78 rfl rfl ?_
            refine q_ldct (i := 0) rfl F dX3_reads_79 ?_
            refine iX3_43 F dX3_reads_81 (t_isWord hT.P (w := 0) (by decide)) (by decide) sh_2 rfl rfl (Nat.le_of_ble_eq_true rfl) (fun v_81 σ_81 h_81 => ?_)
            obtain ⟨rfl, rfl⟩ := h_81
            refine b_eq F 91 dX3_reads_84 (by decide) (fun c_84 => ?_) (fun c_84 => ?_)
            · refine q_iconst F (nI 1) dX3_reads_91 (by decide) ?_
              refine iX3_47 F dX3_reads_92 (c_hasFault) (by decide) sh_2 rfl rfl (Nat.le_of_ble_eq_true rfl) (fun v_92 σ_92 h_92 => ?_)
              obtain ⟨rfl, rfl⟩ := h_92
              refine K _ _ _ _ ?_ dX3_reads_95 (by decide)
              have e9 : rRead tl tb = (1, 4 + 6 * n, n) := hR.trans (by rw [rAll, if_neg c_74, if_neg (by simp [c_84])])
              rw [e9]
              dsimp only
              clear e9 K
              exact ⟨_, _, _, _, _, _, rfl, by simp [bI, nI_0], hK, fun z => absurd z (by simp), fun _ => ⟨rfl, rfl⟩⟩
            · refine q_iconst F (nI 3) dX3_reads_87 (by decide) ?_
              refine q_goto F 92 dX3_reads_88 (by decide) ?_
              refine iX3_47 F dX3_reads_92 (c_hasFault) (by decide) sh_2 rfl rfl (Nat.le_of_ble_eq_true rfl) (fun v_92 σ_92 h_92 => ?_)
              obtain ⟨rfl, rfl⟩ := h_92
              refine K _ _ _ _ ?_ dX3_reads_95 (by decide)
              have e9 : rRead tl tb = (3, 4 + 6 * n, n) := hR.trans (by rw [rAll, if_neg c_74, if_pos c_84])
              rw [e9]
              dsimp only
              clear e9 K
              exact ⟨_, _, _, _, _, _, rfl, by simp [bI, nI_0], hK, fun z => absurd z (by simp), fun _ => ⟨rfl, rfl⟩⟩
        · omega
      | succ m ih =>
        intro n hi hR kd gl sp wy er top law gn fin v x hG hK
        refine q_iload_n F 2 dX3_reads_21 rfl rfl ?_
        refine q_bipush F (nI 6) dX3_reads_22 (by decide) ?_
        refine n_ge F 70 dX3_reads_24 (by decide) (by omega) (by omega) (fun c_24 => ?_) (fun c_24 => ?_)
        · omega
        · refine q_aload_n F 0 dX3_reads_27 rfl rfl ?_
          refine grX3_25 F dX3_reads_28 ?_
          refine z_eq F 70 dX3_reads_31 (by decide) (Nat.lt_of_le_of_lt (tTy_le _ _ _) (by decide)) (fun c_31 => ?_) (fun c_31 => ?_)
          · refine q_aload_n F 0 dX3_reads_70 rfl rfl ?_
            refine grX3_25 F dX3_reads_71 ?_
            refine z_eq F 96 dX3_reads_74 (by decide) (Nat.lt_of_le_of_lt (tTy_le _ _ _) (by decide)) (fun c_74 => ?_) (fun c_74 => ?_)
            · refine q_aload_n F 1 dX3_reads_96 rfl rfl ?_
              rw [vm_RP]
              refine iX3_55 F dX3_reads_97 (c_finish path11 (by omega) (fun p hp => by obtain ⟨-, -, -, -, -, -, -, -, g9⟩ := hG; rw [show er p = p from (g9 p hp).2.2.2.2.1]; omega)) (by decide) path11.1 rfl rfl (Nat.le_of_ble_eq_true rfl) (fun σ_97 h_97 => ?_)
              subst h_97
              rw [← vm_RP]
              refine q_iconst F (nI 1) dX3_reads_100 (by decide) ?_
              refine K _ _ _ _ ?_ dX3_reads_101 (by decide)
              have e9 : rRead tl tb = (0, 0, n) := hR.trans (by rw [rAll, if_pos c_31])
              rw [e9]
              dsimp only
              clear e9 K
              exact ⟨_, _, _, _, _, _, rfl, by simp [bI, nI_one], hK, fun _ => ⟨_, hG, by omega, rfl⟩, fun z => absurd rfl z⟩
            · exact absurd c_31 c_74
          · refine q_aload_n F 0 dX3_reads_34 rfl rfl ?_
            refine q_ldct (i := 0) rfl F dX3_reads_35 ?_
            refine iX3_43 F dX3_reads_37 (t_isWord hT.P (w := 0) (by decide)) (by decide) sh_2 rfl rfl (Nat.le_of_ble_eq_true rfl) (fun v_37 σ_37 h_37 => ?_)
            obtain ⟨rfl, rfl⟩ := h_37
            refine b_ne F 49 dX3_reads_40 (by decide) (fun c_40 => ?_) (fun c_40 => ?_)
            · refine q_aload_n F 0 dX3_reads_49 rfl rfl ?_
              refine q_aload_n F 1 dX3_reads_50 rfl rfl ?_
              refine q_iload_n F 2 dX3_reads_51 rfl rfl ?_
              refine iX3_51 F dX3_reads_52 (c_readsOne hT (by omega) hG hK) (by decide) sh_2 rfl rfl (Nat.le_of_ble_eq_true rfl) (fun v_52 σ_52 h_52 => ?_)
              obtain ⟨⟨kd1, gl1, sp1, wy1, er1, top1, law1, n1, gn1, fin1⟩, a2, f2, t2, v2, x2, hs0, hv0, hkd, hok, hbad⟩ := h_52
              obtain rfl := hs0.symm
              obtain rfl := hv0.symm
              clear hs0 hv0
              refine b_ne F 60 dX3_reads_55 (by decide) (fun c_55 => ?_) (fun c_55 => ?_)
              · have c_55 := of_decide_eq_true c_55
                obtain ⟨hG1, ea⟩ := hok c_55
                obtain rfl := ea.symm
                obtain rfl : n + 1 = n1 := hG1.2.2.1.symm
                refine q_aload_n F 0 dX3_reads_60 rfl rfl ?_
                refine iX3_38 F dX3_reads_61 (t_next hT.P (k := 4 + 6 * n + 5) (k' := 4 + 6 * (n + 1)) (by omega)) (by decide) sh_2 rfl rfl (Nat.le_of_ble_eq_true rfl) (fun σ_61 h_61 => ?_)
                obtain ⟨⟨a61, f61, t61, v61, x61⟩, hs0, ⟨e1, e2, e3, -, -⟩, e6⟩ := h_61
                obtain rfl := hs0.symm
                dsimp only at e1 e2 e3 e6
                obtain rfl := e1.symm
                obtain rfl := e2.symm
                obtain rfl := e3.symm
                obtain rfl := e6.symm
                clear hs0 e1 e2 e3 e6
                refine q_iinc2 F _ dX3_reads_64 (nI_inc _) (by decide) rfl ?_
                refine q_goto F 21 dX3_reads_67 (by decide) ?_
                exact ih (n + 1) (by omega) (hR.trans (by rw [rAll, if_neg c_31, if_pos c_40, if_pos c_55])) _ _ _ _ _ _ _ _ _ _ _ hG1 hkd
              · have c_55 := of_decide_eq_false c_55
                obtain ⟨ef, ex⟩ := hbad c_55
                refine q_iconst F (nI 0) dX3_reads_58 (by decide) ?_
                refine K _ _ _ _ ?_ dX3_reads_59 (by decide)
                have e9 : rRead tl tb = ((rOne tl tb n (4 + 6 * n)).1, (rOne tl tb n (4 + 6 * n)).2, n) := hR.trans (by rw [rAll, if_neg c_31, if_pos c_40, if_neg c_55])
                rw [e9]
                dsimp only
                clear e9 K
                exact ⟨_, _, _, _, _, _, rfl, by simp [c_55, bI, nI_0], hkd, fun z => absurd z c_55, fun _ => ⟨ef, ex⟩⟩
            · refine q_aload_n F 0 dX3_reads_43 rfl rfl ?_
              refine q_iconst F (nI 1) dX3_reads_44 (by decide) ?_
              refine iX3_47 F dX3_reads_45 (c_hasFault) (by decide) sh_2 rfl rfl (Nat.le_of_ble_eq_true rfl) (fun v_45 σ_45 h_45 => ?_)
              obtain ⟨rfl, rfl⟩ := h_45
              refine K _ _ _ _ ?_ dX3_reads_48 (by decide)
              have e9 : rRead tl tb = (1, 4 + 6 * n, n) := hR.trans (by rw [rAll, if_neg c_31, if_neg (by simp [c_40])])
              rw [e9]
              dsimp only
              clear e9 K
              exact ⟨_, _, _, _, _, _, rfl, by simp [bI, nI_0], hK, fun z => absurd z (by simp), fun _ => ⟨rfl, rfl⟩⟩
    exact L 6 0 rfl (by rw [rRead, if_pos c_10]) _ _ _ _ _ _ _ _ _ _ _ hG1 hkq
  · have c_10 := of_decide_eq_false c_10
    obtain ⟨ef, ex⟩ := hbad c_10
    refine q_iconst F (nI 0) dX3_reads_13 (by decide) ?_
    refine K _ _ _ _ ?_ dX3_reads_14 (by decide)
    have e9 : rRead tl tb = ((rLane tl tb).1, (rLane tl tb).2, 0) := (by rw [rRead, if_neg c_10])
    rw [e9]
    dsimp only
    clear e9 K
    exact ⟨_, _, _, _, _, _, rfl, by simp [c_10, bI, nI_0], hkq, fun z => absurd z c_10, fun _ => ⟨ef, ex⟩⟩
