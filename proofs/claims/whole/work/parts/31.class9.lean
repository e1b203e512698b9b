theorem vm_upd_k (σ : vm_M) {a j : Nat} (k : Nat) (v : Int32) (h : j ≠ k) : vm_upd σ a k v a j = σ a j := by simp [vm_upd, upd, h]
abbrev sT_misread (T : vm_T) (x : Nat) : vm_T := (T_rl T, T_rn T, T_ri T, 0, T_tb T, T_hp T, T_nw T, T_pl T, T_pv T, T_im T, T_iv T, T_tn T, T_tr T, nI x, T_fnd T)
abbrev sT_read (T : vm_T) (w : vm_V) : vm_T := (T_rl T, T_rn T, T_ri T, 0, T_tb T, true, w, 0, T_pv T, T_im T, T_iv T, T_tn T, T_tr T, T_flt T, T_fnd T)
/-- path: the answer and a next state; what the people's arrays hold behind the last person is free -/
def pathR (T T' : vm_T) (r : Int32) : Prop :=
  ((rRead (T_tl T) (T_tb T)).1 = 0 ∧ ∃ w, vGood (T_tl T) (T_tb T) w (rRead (T_tl T) (T_tb T)).2.2 ∧ (rRead (T_tl T) (T_tb T)).2.2 ≤ 6 ∧ (∀ p, V_kd w p < 6) ∧ T' = sT_read T (vFin w) ∧ r = nI (rRead (T_tl T) (T_tb T)).2.2) ∨
  ((rRead (T_tl T) (T_tb T)).1 ≠ 0 ∧ T' = sT_misread T (rRead (T_tl T) (T_tb T)).1 ∧ r = -1000100 - nI (tQ (T_tl T) (T_tb T) (rRead (T_tl T) (T_tb T)).2.1))
set_option maxHeartbeats 4000000 in
set_option maxRecDepth 100000 in
theorem k_path {G : vm_G} {σ : vm_M} {T : vm_T} (hC : CInv σ T) : vm_RI G 8 mX7_path [.ref 0] σ (fun r σ' => ∃ T', pathR T T' r ∧ CInv σ' T' ∧ ∀ o, 202 ≤ o → σ' o = σ o) := by
  refine vm_int (y := mX7_path) (by decide) (Nat.le_of_ble_eq_true rfl) (ls0 := [some (.ref 0), none]) rfl rfl (fun C F K => ?_)
  have F : vm_F G C cX7_path RX7 2 _ := F
  show vm_Ex G C 2 0 [some (.ref 0), none] [] _
  have hT := hC.2.1
  obtain ⟨h1, h2, h3, h4, h5, h6, h7, h8, ⟨kd, gl, sp, wy, er, top, law, n, gn, fin⟩, hD, hDk⟩ := hC
  have hm : vm_Rd (vm_P σ 11 (kd, gl, sp, wy, er, top, law, n, gn, fin)) (int_nat (σ 2 1), int_nat (σ 2 2), int_nat (σ 2 3), int_nat (σ 2 4), int_nat (σ 2 5)) = σ := by
    rw [show vm_P σ 11 (kd, gl, sp, wy, er, top, law, n, gn, fin) = σ from hD, vm_Rd_any]
  have CR := c_reads (G := G) hT (gl := gl) (sp := sp) (wy := wy) (er := er) (top := top) (law := law) (n := n) (gn := gn) (fin := fin) (a := int_nat (σ 2 1)) (f := int_nat (σ 2 2)) (t := int_nat (σ 2 3)) (v := int_nat (σ 2 4)) (x := int_nat (σ 2 5)) hDk
  rw [hm] at CR
  refine q_aload_n F 0 dX7_path_0 rfl rfl ?_
  refine gX7_18 F dX7_path_1 sh_0 rfl ?_
  refine q_aload_n F 0 dX7_path_4 rfl rfl ?_
  refine gX7_29 F dX7_path_5 sh_0 rfl ?_
  refine iX7_131 F dX7_path_8 (CR) (by decide) sh_2 rfl rfl (Nat.le_of_ble_eq_true rfl) (fun v_8 σ_8 h_8 => ?_)
  obtain ⟨v3, a2, f2, t2, v2, x2, hs0, hv0, hkd, hok, hbad⟩ := h_8
  obtain rfl := hs0.symm
  obtain rfl := hv0.symm
  clear hs0 hv0 CR
  refine q_istore_n1 F dX7_path_11 (by decide) rfl ?_
  refine q_aload_n F 0 dX7_path_12 rfl rfl ?_
  refine gX7_18 F dX7_path_13 sh_0 rfl ?_
  refine gX7_117 F dX7_path_16 sh_2 rfl ?_
  refine q_iconst F (nI 0) dX7_path_19 (by decide) ?_
  refine pX7_121 F dX7_path_20 sh_3 rfl ⟨rfl, rfl⟩ ?_
  refine q_iload_n F 1 dX7_path_23 rfl rfl ?_
  refine b_ne F 49 dX7_path_24 (by decide) (fun c_24 => ?_) (fun c_24 => ?_)
  · have c_24 := of_decide_eq_true c_24
    have hB : vm_P (vm_upd (vm_Rd (vm_P σ 11 v3) (a2, f2, t2, v2, x2)) 3 1 (nI 0)) 11 v3 = vm_upd (vm_Rd (vm_P σ 11 v3) (a2, f2, t2, v2, x2)) 3 1 (nI 0) := (show isP (vm_Rd (vm_P σ 11 v3) (a2, f2, t2, v2, x2)) 11 v3 from by rw [vm_RP]; exact isP_P _ _ _).fr (fun o a b => vm_upd_n _ _ _ (by omega))
    refine q_aload_n F 0 dX7_path_49 rfl rfl ?_
    refine gX7_25 F dX7_path_50 sh_0 rfl ?_
    refine q_aload_n F 0 dX7_path_53 rfl rfl ?_
    refine gX7_29 F dX7_path_54 sh_0 rfl ?_
    refine iX7_142 F dX7_path_57 (c_become path5 path11 (by omega) hB) (by decide) path5.1 rfl rfl (Nat.le_of_ble_eq_true rfl) (fun σ_57 h_57 => ?_)
    subst h_57
    refine q_aload_n F 0 dX7_path_60 rfl rfl ?_
    refine q_iconst F (nI 1) dX7_path_61 (by decide) ?_
    refine pX7_64 F dX7_path_62 sh_0 rfl ⟨rfl, rfl⟩ ?_
    refine q_aload_n F 0 dX7_path_65 rfl rfl ?_
    refine gX7_46 F dX7_path_66 sh_0 rfl ?_
    refine iX7_146 F dX7_path_69 (c_pclear) (by decide) sh_25 rfl rfl (Nat.le_of_ble_eq_true rfl) (fun σ_69 h_69 => ?_)
    subst h_69
    refine q_aload_n F 0 dX7_path_72 rfl rfl ?_
    refine gX7_25 F dX7_path_73 sh_0 rfl ?_
    refine gX7_149 F dX7_path_76 path5.1 rfl ?_
    refine q_top (.int (nI (V_n v3))) (congrArg Value.int (by simp [vm_upd, vm_P])) ?_
    refine K _ _ _ _ ?_ dX7_path_79 rfl
    obtain ⟨w, hG, hn6, rfl⟩ := hok c_24
    refine ⟨sT_read T (vFin w), Or.inl ⟨c_24, w, hG, hn6, hkd, rfl, congrArg nI hG.2.2.1⟩, ?_, ?_⟩
    · have e : ∀ o, o ≠ 0 → o ≠ 3 → o ≠ 2 → o ≠ 25 → ¬ (5 ≤ o ∧ o ≤ 10) → ¬ (11 ≤ o ∧ o ≤ 16) → ∀ y, vm_upd (vm_upd (vm_upd (vm_P (vm_upd (vm_Rd (vm_P σ 11 (vFin w)) (a2, f2, t2, v2, x2)) 3 1 (nI 0)) 5 (vFin w)) 0 10 y) 25 1 (nI 0)) 25 2 (nI 0) o = σ o := fun o a b c d g h y => by rw [vm_upd_n _ _ _ d, vm_upd_n _ _ _ d, vm_upd_n _ _ _ a, vm_P_out (by omega), vm_upd_n _ _ _ b, vm_Rd_n c, vm_P_out (by omega)]
      have e0 : ∀ k, k ≠ 10 → ∀ y, vm_upd (vm_upd (vm_upd (vm_P (vm_upd (vm_Rd (vm_P σ 11 (vFin w)) (a2, f2, t2, v2, x2)) 3 1 (nI 0)) 5 (vFin w)) 0 10 y) 25 1 (nI 0)) 25 2 (nI 0) 0 k = σ 0 k := fun k hk y => by rw [vm_upd_n _ _ _ (by omega), vm_upd_n _ _ _ (by omega), vm_upd_k _ _ _ hk, vm_P_out (by omega), vm_upd_n _ _ _ (by omega), vm_Rd_n (by omega), vm_P_out (by omega)]
      refine ⟨h1.fr (fun o a b => e o (by omega) (by omega) (by omega) (by omega) (by omega) (by omega) _), ⟨?_, Nat.zero_le _, fun k hk => absurd hk (Nat.not_lt_zero _)⟩, ⟨?_, ?_⟩, ⟨0, by omega, ?_, ?_, Nat.zero_le _, fun i hi => absurd hi (Nat.not_lt_zero _)⟩, h5.fr (e 24 (by omega) (by omega) (by omega) (by omega) (by omega) (by omega) _) (fun o a b => e o (by omega) (by omega) (by omega) (by omega) (by omega) (by omega) _), h6.fr (e 171 (by omega) (by omega) (by omega) (by omega) (by omega) (by omega) _) (e 172 (by omega) (by omega) (by omega) (by omega) (by omega) (by omega) _), (e0 11 (by omega) _).trans h7, (e0 12 (by omega) _).trans h8, vFin w, ?_, hkd⟩
      · rw [vm_upd_n _ _ _ (by omega), vm_upd_n _ _ _ (by omega), vm_upd_n _ _ _ (by omega), vm_P_out (by omega)]
        simp [vm_upd, upd]
      · rw [vm_upd_n _ _ _ (by omega), vm_upd_n _ _ _ (by omega)]
        simp [vm_upd, upd, bI, nI_one]
      · exact (isP_P _ 5 (vFin w)).fr (fun o a b => by rw [vm_upd_n _ _ _ (by omega), vm_upd_n _ _ _ (by omega), vm_upd_n _ _ _ (by omega)])
      · simp [vm_upd, upd]
      · simp [vm_upd, upd]
      · exact (isP_other (b2 := 5) (w := vFin w) (show isP _ 11 (vFin w) from hB) (by omega)).fr (fun o a b => by rw [vm_upd_n _ _ _ (by omega), vm_upd_n _ _ _ (by omega), vm_upd_n _ _ _ (by omega)])
    · intro o ho
      rw [vm_upd_n _ _ _ (by omega), vm_upd_n _ _ _ (by omega), vm_upd_n _ _ _ (by omega), vm_P_out (by omega), vm_upd_n _ _ _ (by omega), vm_Rd_n (by omega), vm_P_out (by omega)]
  · have c_24 := of_decide_eq_false c_24
    refine q_aload_n F 0 dX7_path_27 rfl rfl ?_
    refine q_aload_n F 0 dX7_path_28 rfl rfl ?_
    refine gX7_18 F dX7_path_29 sh_0 rfl ?_
    refine gX7_135 F dX7_path_32 sh_2 rfl ?_
    refine q_top (.int (nI x2)) (congrArg Value.int (by simp [vm_upd, vm_Rd])) ?_
    refine pX7_68 F dX7_path_35 sh_0 rfl ⟨rfl, rfl⟩ ?_
    refine q_ldc F dX7_path_38 wX7_138 ?_
    refine q_aload_n F 0 dX7_path_40 rfl rfl ?_
    refine gX7_18 F dX7_path_41 sh_0 rfl ?_
    refine gX7_139 F dX7_path_44 sh_2 rfl ?_
    refine q_top (.int (nI f2)) (congrArg Value.int (by simp [vm_upd, vm_Rd])) ?_
    refine q_isub F dX7_path_47 ?_
    refine K _ _ _ _ ?_ dX7_path_48 rfl
    obtain ⟨ef, ex⟩ := hbad c_24
    obtain rfl := ef.symm
    obtain rfl := ex.symm
    refine ⟨sT_misread T (rRead (T_tl T) (T_tb T)).1, Or.inr ⟨c_24, rfl, rfl⟩, ?_, ?_⟩
    · have e : ∀ o, o ≠ 0 → o ≠ 3 → o ≠ 2 → ¬ (11 ≤ o ∧ o ≤ 16) → ∀ y r, vm_upd (vm_upd (vm_Rd (vm_P σ 11 v3) r) 3 1 (nI 0)) 0 11 y o = σ o := fun o a b c d y r => by rw [vm_upd_n _ _ _ a, vm_upd_n _ _ _ b, vm_Rd_n c, vm_P_out (by omega)]
      have e0 : ∀ k, k ≠ 11 → ∀ y r, vm_upd (vm_upd (vm_Rd (vm_P σ 11 v3) r) 3 1 (nI 0)) 0 11 y 0 k = σ 0 k := fun k hk y r => by rw [vm_upd_k _ _ _ hk, vm_upd_n _ _ _ (by omega), vm_Rd_n (by omega), vm_P_out (by omega)]
      refine ⟨h1.fr (fun o a b => e o (by omega) (by omega) (by omega) (by omega) _ _), ⟨?_, Nat.zero_le _, fun k hk => absurd hk (Nat.not_lt_zero _)⟩, h3.fr (e0 10 (by omega) _ _) (fun o a b => e o (by omega) (by omega) (by omega) (by omega) _ _), h4.fr (fun o a b => e o (by omega) (by omega) (by omega) (by omega) _ _), h5.fr (e 24 (by omega) (by omega) (by omega) (by omega) _ _) (fun o a b => e o (by omega) (by omega) (by omega) (by omega) _ _), h6.fr (e 171 (by omega) (by omega) (by omega) (by omega) _ _) (e 172 (by omega) (by omega) (by omega) (by omega) _ _), ?_, (e0 12 (by omega) _ _).trans h8, v3, ?_, hkd⟩
      · simp [vm_upd, upd]
      · simp [vm_upd, upd]
      · exact (show isP (vm_Rd (vm_P σ 11 v3) (a2, tQ (T_tl T) (T_tb T) (rRead (T_tl T) (T_tb T)).2.1, t2, v2, (rRead (T_tl T) (T_tb T)).1)) 11 v3 from by rw [vm_RP]; exact isP_P _ _ _).fr (fun o a b => by rw [vm_upd_n _ _ _ (by omega), vm_upd_n _ _ _ (by omega)])
    · intro o ho
      rw [vm_upd_n _ _ _ (by omega), vm_upd_n _ _ _ (by omega), vm_Rd_n (by omega), vm_P_out (by omega)]
