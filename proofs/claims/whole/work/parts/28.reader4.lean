/-- the place of the token with this number -/
def tQ (tl : Nat) (tb : Nat → Nat) : Nat → Nat
  | 0 => tSk tl tb 0
  | k + 1 => tSk tl tb (tEnd tl tb (tQ tl tb k))
theorem tQ_le (tl : Nat) (tb : Nat → Nat) : ∀ k, tQ tl tb k ≤ tl
  | 0 => (tSk_le (Nat.zero_le _)).2
  | k + 1 => (tSk_le (tEnd_le (tQ_le tl tb k)).2).2
def qV (tl : Nat) (tb : Nat → Nat) (k : Nat) : Nat := tVal tb (tQ tl tb k) (tEnd tl tb (tQ tl tb k) - tQ tl tb k)
def qW (tl : Nat) (tb : Nat → Nat) (k i : Nat) : Bool := sWord tb (tEnd tl tb (tQ tl tb k)) (tQ tl tb k) (tTy tl tb (tQ tl tb k)) i
def kOf (tb : Nat → Nat) (a f t : Nat) : Nat := if sWord tb a f t 2 = true then 1 else if sWord tb a f t 3 = true then 2 else if sWord tb a f t 4 = true then 4 else if sWord tb a f t 5 = true then 3 else if sWord tb a f t 6 = true then 5 else 0
def qK (tl : Nat) (tb : Nat → Nat) (k : Nat) : Nat := kOf tb (tEnd tl tb (tQ tl tb k)) (tQ tl tb k) (tTy tl tb (tQ tl tb k))
theorem kOf_lt (tb : Nat → Nat) (a f t : Nat) : kOf tb a f t < 6 := by
  unfold kOf
  repeat' split
  all_goals omega
/-- fault (0: none) and its token: the lane -/
def rLane (tl : Nat) (tb : Nat → Nat) : Nat × Nat :=
  if qW tl tb 0 1 = true then
    if rNum tl tb (tQ tl tb 1) 2 30 = 0 then
      if rNum tl tb (tQ tl tb 2) 0 2 = 0 then ((if tTy tl tb (tQ tl tb 3) = 3 then 0 else 1), 3)
      else (rNum tl tb (tQ tl tb 2) 0 2, 2)
    else (rNum tl tb (tQ tl tb 1) 2 30, 1)
  else (1, 0)
/-- the same of the person who begins at token k -/
def rOne (tl : Nat) (tb : Nat → Nat) (p k : Nat) : Nat × Nat :=
  if qK tl tb (k + 1) = 0 then (1, k + 1)
  else if rSpt tl tb (tQ tl tb (k + 2)) (2 * qV tl tb 1) = 0 then
    if sF (fun j => decide (qV tl tb (4 + 6 * j + 2) = qV tl tb (k + 2))) p < p then (2, k + 2)
    else if rNum tl tb (tQ tl tb (k + 3)) 0 1 = 0 then
      if rSpt tl tb (tQ tl tb (k + 4)) (2 * qV tl tb 1) = 0 then ((if tTy tl tb (tQ tl tb (k + 5)) = 3 then 0 else 1), k + 5)
      else (rSpt tl tb (tQ tl tb (k + 4)) (2 * qV tl tb 1), k + 4)
    else (rNum tl tb (tQ tl tb (k + 3)) 0 1, k + 3)
  else (rSpt tl tb (tQ tl tb (k + 2)) (2 * qV tl tb 1), k + 2)
/-- the draft is as told, up to person n -/
def vGood (tl : Nat) (tb : Nat → Nat) (v : vm_V) (n : Nat) : Prop := V_top v = 2 * qV tl tb 1 ∧ V_law v = qV tl tb 2 ∧ V_n v = n ∧ V_gn v = 0 ∧ V_fin v = 0 ∧ 2 ≤ qV tl tb 1 ∧ qV tl tb 1 ≤ 30 ∧ qV tl tb 2 ≤ 2 ∧
  ∀ j, j < n → V_kd v j = qK tl tb (4 + 6 * j + 1) ∧ V_sp v j = nI (qV tl tb (4 + 6 * j + 2)) ∧ V_wy v j = decide (qV tl tb (4 + 6 * j + 3) = 1) ∧ V_gl v j = nI (qV tl tb (4 + 6 * j + 4)) ∧ V_er v j = j ∧ qK tl tb (4 + 6 * j + 1) ≠ 0 ∧ qV tl tb (4 + 6 * j + 2) ≤ 2 * qV tl tb 1 ∧ qV tl tb (4 + 6 * j + 2) % 2 = 0 ∧ qV tl tb (4 + 6 * j + 4) ≤ 2 * qV tl tb 1 ∧ qV tl tb (4 + 6 * j + 4) % 2 = 0 ∧ ∀ i, i < j → qV tl tb (4 + 6 * i + 2) ≠ qV tl tb (4 + 6 * j + 2)
theorem cTape.P {σ : vm_M} {tl : Nat} {tb : Nat → Nat} {v : vm_V} (h : cTape σ tl tb) : cTape (vm_P σ 11 v) tl tb := h.fr (vm_P_out (by omega)) (vm_P_out (by omega))
section
variable {G : vm_G} {σ : vm_M} {tl : Nat} {tb : Nat → Nat}  {f t v x k k' : Nat}
theorem t_next0 (hT : cTape σ tl tb) : vm_RV G 2 mX3_next [.ref 2] (vm_Rd σ (0, f, t, v, x)) (fun σ' => ∃ r : rd_V, σ' = vm_Rd σ r ∧ tokAt tl tb (tQ tl tb (0)) r ∧ r.2.2.2.2 = x) := c_next hT (Nat.zero_le _)
theorem t_next (hT : cTape σ tl tb) (hk : k' = k + 1) : vm_RV G 2 mX3_next [.ref 2] (vm_Rd σ ((tEnd tl tb (tQ tl tb (k))), f, t, v, x)) (fun σ' => ∃ r : rd_V, σ' = vm_Rd σ r ∧ tokAt tl tb (tQ tl tb (k')) r ∧ r.2.2.2.2 = x) := by
  subst hk
  exact c_next hT (tEnd_le (tQ_le tl tb k)).2
theorem t_readsSign (hT : cTape σ tl tb) (hk : k' = k + 1) : vm_RI G 3 mX3_readsSign [.ref 2] (vm_Rd σ ((tEnd tl tb (tQ tl tb (k))), f, t, v, x)) (fun r σ' => ∃ t2 v2, r = bI (decide (tTy tl tb (tQ tl tb (k')) = 3)) ∧ σ' = vm_Rd σ ((tEnd tl tb (tQ tl tb (k'))), (tQ tl tb (k')), t2, v2, if tTy tl tb (tQ tl tb (k')) = 3 then x else 1)) := by
  subst hk
  exact c_readsSign hT (tEnd_le (tQ_le tl tb k)).2
theorem t_readsNumber (hT : cTape σ tl tb) (hk : k' = k + 1) {lo hi : Nat} (hlo : lo < 2 ^ 31) (hhi : hi < 2 ^ 31) : vm_RI G 3 mX3_readsNumber [.ref 2, .int (nI lo), .int (nI hi)] (vm_Rd σ ((tEnd tl tb (tQ tl tb (k))), f, t, v, x)) (fun r σ' => ∃ t2 v2, r = bI (decide (rNum tl tb (tQ tl tb (k')) lo hi = 0)) ∧ σ' = vm_Rd σ ((tEnd tl tb (tQ tl tb (k'))), (tQ tl tb (k')), t2, v2, rFlt x (rNum tl tb (tQ tl tb (k')) lo hi)) ∧ (rNum tl tb (tQ tl tb (k')) lo hi = 0 → v2 = qV tl tb k' ∧ lo ≤ v2 ∧ v2 ≤ hi)) := by
  subst hk
  exact c_readsNumber hT (tEnd_le (tQ_le tl tb k)).2 hlo hhi
theorem t_readsSpot (hT : cTape σ tl tb) (hk : k' = k + 1) {hi : Nat} (hhi : hi < 2 ^ 31) : vm_RI G 4 mX3_readsSpot [.ref 2, .int (nI hi)] (vm_Rd σ ((tEnd tl tb (tQ tl tb (k))), f, t, v, x)) (fun r σ' => ∃ t2 v2, r = bI (decide (rSpt tl tb (tQ tl tb (k')) hi = 0)) ∧ σ' = vm_Rd σ ((tEnd tl tb (tQ tl tb (k'))), (tQ tl tb (k')), t2, v2, rFlt x (rSpt tl tb (tQ tl tb (k')) hi)) ∧ (rSpt tl tb (tQ tl tb (k')) hi = 0 → v2 = qV tl tb k' ∧ v2 ≤ hi ∧ v2 % 2 = 0)) := by
  subst hk
  exact c_readsSpot hT (tEnd_le (tQ_le tl tb k)).2 hhi
theorem t_isWord (hT : cTape σ tl tb) {w : Nat} (hw : w < 7) : vm_RI G 4 mX3_isWord [.ref 2, .ref (2000 + w)] (vm_Rd σ ((tEnd tl tb (tQ tl tb (k))), (tQ tl tb (k)), tTy tl tb (tQ tl tb (k)), v, x)) (fun r σ' => r = bI (qW tl tb k w) ∧ σ' = vm_Rd σ ((tEnd tl tb (tQ tl tb (k))), (tQ tl tb (k)), tTy tl tb (tQ tl tb (k)), v, x)) :=
  c_isWord hT hw (tEnd_le (tQ_le tl tb k)).1 (tEnd_le (tQ_le tl tb k)).2 (tTy_le _ _ _)
end
set_option maxHeartbeats 4000000 in
set_option maxRecDepth 100000 in
theorem c_kindTold {G : vm_G} {σ : vm_M} {tl : Nat} {tb : Nat → Nat} (hT : cTape σ tl tb) {a f t v x : Nat} (hfa : f ≤ a) (ha : a ≤ tl) (ht : t ≤ 4) : vm_RI G 5 mX3_kindTold [.ref 2] (vm_Rd σ (a, f, t, v, x)) (fun r σ' => r = (if kOf tb a f t = 0 then -1000000 else nI (kOf tb a f t)) ∧ σ' = vm_Rd σ (a, f, t, v, x)) := by
  refine vm_int (y := mX3_kindTold) (by decide) (Nat.le_of_ble_eq_true rfl) (ls0 := [some (.ref 2)]) rfl rfl (fun C F K => ?_)
  have F : vm_F G C cX3_kindTold RX3 1 _ := F
  show vm_Ex G C 1 0 [some (.ref 2)] [] _
  refine q_aload_n F 0 dX3_kindTold_0 rfl rfl ?_
  refine q_ldct (i := 2) rfl F dX3_kindTold_1 ?_
  refine iX3_43 F dX3_kindTold_3 (c_isWord hT (w := 2) (by decide) hfa ha ht) (by decide) sh_2 rfl rfl (Nat.le_of_ble_eq_true rfl) (fun v_3 σ_3 h_3 => ?_)
  obtain ⟨rfl, rfl⟩ := h_3
  refine b_eq F 11 dX3_kindTold_6 (by decide) (fun c_6 => ?_) (fun c_6 => ?_)
  · refine q_aload_n F 0 dX3_kindTold_11 rfl rfl ?_
    refine q_ldct (i := 3) rfl F dX3_kindTold_12 ?_
    refine iX3_43 F dX3_kindTold_14 (c_isWord hT (w := 3) (by decide) hfa ha ht) (by decide) sh_2 rfl rfl (Nat.le_of_ble_eq_true rfl) (fun v_14 σ_14 h_14 => ?_)
    obtain ⟨rfl, rfl⟩ := h_14
    refine b_eq F 22 dX3_kindTold_17 (by decide) (fun c_17 => ?_) (fun c_17 => ?_)
    · refine q_aload_n F 0 dX3_kindTold_22 rfl rfl ?_
      refine q_ldct (i := 4) rfl F dX3_kindTold_23 ?_
      refine iX3_43 F dX3_kindTold_25 (c_isWord hT (w := 4) (by decide) hfa ha ht) (by decide) sh_2 rfl rfl (Nat.le_of_ble_eq_true rfl) (fun v_25 σ_25 h_25 => ?_)
      obtain ⟨rfl, rfl⟩ := h_25
      refine b_eq F 33 dX3_kindTold_28 (by decide) (fun c_28 => ?_) (fun c_28 => ?_)
      · refine q_aload_n F 0 dX3_kindTold_33 rfl rfl ?_
        refine q_ldct (i := 5) rfl F dX3_kindTold_34 ?_
        refine iX3_43 F dX3_kindTold_36 (c_isWord hT (w := 5) (by decide) hfa ha ht) (by decide) sh_2 rfl rfl (Nat.le_of_ble_eq_true rfl) (fun v_36 σ_36 h_36 => ?_)
        obtain ⟨rfl, rfl⟩ := h_36
        refine b_eq F 44 dX3_kindTold_39 (by decide) (fun c_39 => ?_) (fun c_39 => ?_)
        · refine q_aload_n F 0 dX3_kindTold_44 rfl rfl ?_
          refine q_ldct (i := 6) rfl F dX3_kindTold_45 ?_
          refine iX3_43 F dX3_kindTold_47 (c_isWord hT (w := 6) (by decide) hfa ha ht) (by decide) sh_2 rfl rfl (Nat.le_of_ble_eq_true rfl) (fun v_47 σ_47 h_47 => ?_)
          obtain ⟨rfl, rfl⟩ := h_47
          refine b_eq F 57 dX3_kindTold_50 (by decide) (fun c_50 => ?_) (fun c_50 => ?_)
          · refine q_ldc F dX3_kindTold_57 wX3_78 ?_
            refine K _ _ _ _ ?_ dX3_kindTold_59 rfl
            exact ⟨by simp [kOf, c_6, c_17, c_28, c_39, c_50], rfl⟩
          · refine q_iconst F (nI 5) dX3_kindTold_53 (by decide) ?_
            refine q_goto F 59 dX3_kindTold_54 (by decide) ?_
            refine K _ _ _ _ ?_ dX3_kindTold_59 rfl
            exact ⟨by simp [kOf, c_6, c_17, c_28, c_39, c_50], rfl⟩
        · refine q_iconst F (nI 3) dX3_kindTold_42 (by decide) ?_
          refine K _ _ _ _ ?_ dX3_kindTold_43 rfl
          exact ⟨by simp [kOf, c_6, c_17, c_28, c_39], rfl⟩
      · refine q_iconst F (nI 4) dX3_kindTold_31 (by decide) ?_
        refine K _ _ _ _ ?_ dX3_kindTold_32 rfl
        exact ⟨by simp [kOf, c_6, c_17, c_28], rfl⟩
    · refine q_iconst F (nI 2) dX3_kindTold_20 (by decide) ?_
      refine K _ _ _ _ ?_ dX3_kindTold_21 rfl
      exact ⟨by simp [kOf, c_6, c_17], rfl⟩
  · refine q_iconst F (nI 1) dX3_kindTold_9 (by decide) ?_
    refine K _ _ _ _ ?_ dX3_kindTold_10 rfl
    exact ⟨by simp [kOf, c_6], rfl⟩
set_option maxHeartbeats 4000000 in
set_option maxRecDepth 100000 in
theorem c_readsLane {G : vm_G} {σ : vm_M} {tl : Nat} {tb : Nat → Nat} (hT : cTape σ tl tb) {kd : Nat → Nat} {gl sp : Nat → Int32} {wy : Nat → Bool} {er : Nat → Nat} {top law n gn : Nat} {fin : Int32} {f t v x : Nat} : vm_RI G 5 mX3_readsLane [.ref 2, .ref 11] (vm_Rd (vm_P σ 11 (kd, gl, sp, wy, er, top, law, n, gn, fin)) (0, f, t, v, x)) (fun r σ' => ∃ v' a2 f2 t2 v2 x2, σ' = vm_Rd (vm_P σ 11 v') (a2, f2, t2, v2, x2) ∧ r = bI (decide ((rLane tl tb).1 = 0)) ∧ V_kd v' = kd ∧ ((rLane tl tb).1 = 0 → vGood tl tb v' 0 ∧ a2 = (tEnd tl tb (tQ tl tb (3)))) ∧ ((rLane tl tb).1 ≠ 0 → f2 = tQ tl tb (rLane tl tb).2 ∧ x2 = (rLane tl tb).1)) := by
  refine vm_int (y := mX3_readsLane) (by decide) (Nat.le_of_ble_eq_true rfl) (ls0 := [some (.ref 2), some (.ref 11), none]) rfl rfl (fun C F K => ?_)
  have F : vm_F G C cX3_readsLane RX3 3 _ := F
  show vm_Ex G C 3 0 [some (.ref 2), some (.ref 11), none] [] _
  refine q_aload_n F 0 dX3_readsLane_0 rfl rfl ?_
  refine iX3_38 F dX3_readsLane_1 (t_next0 hT.P) (by decide) sh_2 rfl rfl (Nat.le_of_ble_eq_true rfl) (fun σ_1 h_1 => ?_)
  obtain ⟨⟨a1, f1, t1, v1, x1⟩, rfl, ⟨e1, e2, e3, -, -⟩, e6⟩ := h_1
  dsimp only at e1 e2 e3 e6
  subst e1 e2 e3 e6
  refine q_aload_n F 0 dX3_readsLane_4 rfl rfl ?_
  refine q_ldct (i := 1) rfl F dX3_readsLane_5 ?_
  refine iX3_43 F dX3_readsLane_7 (t_isWord hT.P (w := 1) (by decide)) (by decide) sh_2 rfl rfl (Nat.le_of_ble_eq_true rfl) (fun v_7 σ_7 h_7 => ?_)
  obtain ⟨rfl, rfl⟩ := h_7
  refine b_ne F 19 dX3_readsLane_10 (by decide) (fun c_10 => ?_) (fun c_10 => ?_)
  · refine q_aload_n F 0 dX3_readsLane_19 rfl rfl ?_
    refine q_iconst F (nI 2) dX3_readsLane_20 (by decide) ?_
    refine q_bipush F (nI 30) dX3_readsLane_21 (by decide) ?_
    refine iX3_62 F dX3_readsLane_23 (t_readsNumber hT.P (k := 0) (k' := 1) rfl (lo := 2) (hi := 30) (by omega) (by omega)) (by decide) sh_2 rfl rfl (Nat.le_of_ble_eq_true rfl) (fun v_23 σ_23 h_23 => ?_)
    obtain ⟨t3, v3, rfl, rfl, e23⟩ := h_23
    refine b_ne F 31 dX3_readsLane_26 (by decide) (fun c_26 => ?_) (fun c_26 => ?_)
    · have c_26 := of_decide_eq_true c_26
      obtain ⟨rfl, e7, e8⟩ := e23 c_26
      refine q_aload_n F 0 dX3_readsLane_31 rfl rfl ?_
      refine grX3_28 F dX3_readsLane_32 ?_
      refine q_istore_n2 F dX3_readsLane_35 (by decide) rfl ?_
      refine q_aload_n F 0 dX3_readsLane_36 rfl rfl ?_
      refine q_iconst F (nI 0) dX3_readsLane_37 (by decide) ?_
      refine q_iconst F (nI 2) dX3_readsLane_38 (by decide) ?_
      refine iX3_62 F dX3_readsLane_39 (t_readsNumber hT.P (k := 1) (k' := 2) rfl (lo := 0) (hi := 2) (by omega) (by omega)) (by decide) sh_2 rfl rfl (Nat.le_of_ble_eq_true rfl) (fun v_39 σ_39 h_39 => ?_)
      obtain ⟨t4, v4, rfl, rfl, e39⟩ := h_39
      refine b_ne F 47 dX3_readsLane_42 (by decide) (fun c_42 => ?_) (fun c_42 => ?_)
      · have c_42 := of_decide_eq_true c_42
        obtain ⟨rfl, e10, e11⟩ := e39 c_42
        refine q_aload_n F 1 dX3_readsLane_47 rfl rfl ?_
        refine q_iconst F (nI 2) dX3_readsLane_48 (by decide) ?_
        refine q_iload_n F 2 dX3_readsLane_49 rfl rfl ?_
        refine n_imul F dX3_readsLane_50 ?_
        refine q_aload_n F 0 dX3_readsLane_51 rfl rfl ?_
        refine grX3_28 F dX3_readsLane_52 ?_
        rw [vm_RP]
        refine iX3_66 F dX3_readsLane_55 (c_begin path11) (by decide) path11.1 rfl rfl (Nat.le_of_ble_eq_true rfl) (fun σ_55 h_55 => ?_)
        subst h_55
        rw [← vm_RP]
        refine q_aload_n F 0 dX3_readsLane_58 rfl rfl ?_
        refine iX3_70 F dX3_readsLane_59 (t_readsSign hT.P (k := 2) (k' := 3) rfl) (by decide) sh_2 rfl rfl (Nat.le_of_ble_eq_true rfl) (fun v_59 σ_59 h_59 => ?_)
        obtain ⟨t5, v5, rfl, rfl⟩ := h_59
        refine K _ _ _ _ ?_ dX3_readsLane_62 (nI_bool _)
        have e9 : rLane tl tb = ((if tTy tl tb (tQ tl tb 3) = 3 then 0 else 1), 3) := by rw [rLane, if_pos c_10, if_pos c_26, if_pos c_42]
        rw [e9]
        refine ⟨_, _, _, _, _, _, rfl, ?_, rfl, fun z => ⟨⟨rfl, rfl, rfl, rfl, rfl, e7, e8, e11, fun j hj => absurd hj (Nat.not_lt_zero _)⟩, rfl⟩, fun z => ⟨rfl, ?_⟩⟩
        · by_cases h : tTy tl tb (tQ tl tb 3) = 3 <;> simp [h]
        · by_cases h : tTy tl tb (tQ tl tb 3) = 3
          · simp [h] at z
          · simp [h]
      · have c_42 := of_decide_eq_false c_42
        refine q_iconst F (nI 0) dX3_readsLane_45 (by decide) ?_
        refine K _ _ _ _ ?_ dX3_readsLane_46 (by decide)
        have e9 : rLane tl tb = (rNum tl tb (tQ tl tb 2) 0 2, 2) := by rw [rLane, if_pos c_10, if_pos c_26, if_neg c_42]
        rw [e9]
        exact ⟨_, _, _, _, _, _, rfl, by simp [c_42, bI, nI_0], rfl, fun z => absurd z c_42, fun _ => ⟨rfl, by simp only [rFlt, if_neg c_42]⟩⟩
    · have c_26 := of_decide_eq_false c_26
      refine q_iconst F (nI 0) dX3_readsLane_29 (by decide) ?_
      refine K _ _ _ _ ?_ dX3_readsLane_30 (by decide)
      have e9 : rLane tl tb = (rNum tl tb (tQ tl tb 1) 2 30, 1) := by rw [rLane, if_pos c_10, if_neg c_26]
      rw [e9]
      exact ⟨_, _, _, _, _, _, rfl, by simp [c_26, bI, nI_0], rfl, fun z => absurd z c_26, fun _ => ⟨rfl, by simp only [rFlt, if_neg c_26]⟩⟩
  · refine q_aload_n F 0 dX3_readsLane_13 rfl rfl ?_
    refine q_iconst F (nI 1) dX3_readsLane_14 (by decide) ?_
    refine iX3_47 F dX3_readsLane_15 (c_hasFault) (by decide) sh_2 rfl rfl (Nat.le_of_ble_eq_true rfl) (fun v_15 σ_15 h_15 => ?_)
    obtain ⟨rfl, rfl⟩ := h_15
    refine K _ _ _ _ ?_ dX3_readsLane_18 (by decide)
    have e9 : rLane tl tb = (1, 0) := by rw [rLane, if_neg (by simp [c_10])]
    rw [e9]
    exact ⟨_, _, _, _, _, _, rfl, by decide, rfl, fun z => absurd z (by decide), fun _ => ⟨rfl, rfl⟩⟩
