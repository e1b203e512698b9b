theorem tok_num {tl p : Nat} {tb : Nat → Nat} (h : tTy tl tb p = 2) : tEnd tl tb p - p ≤ 3 ∧ ∀ k, k < tEnd tl tb p - p → isFi (tb (p + k)) = true := by
  unfold tTy at h
  split at h
  · omega
  · next h1 =>
    split at h
    · omega
    · next h2 =>
      split at h
      · next h3 =>
        split at h
        · next h4 =>
          simp only [tEnd, if_neg h1, if_neg h2, if_pos h3]
          refine ⟨h4, fun k hk => ?_⟩
          have := sF_before (f := fun k => !(isFi (tb (p + k)))) (m := tl - p) (p := k) (by unfold tRun at hk; omega)
          simpa using this
        · omega
      · split at h <;> omega
theorem tVal_lt {tb : Nat → Nat} {p : Nat} : ∀ k, (∀ i, i < k → isFi (tb (p + i)) = true) → tVal tb p k < 10 ^ k
  | 0, _ => by simp [tVal]
  | k + 1, h => by
    have h1 := tVal_lt k (fun i hi => h i (by omega))
    have h2 := h k (by omega)
    simp [isFi] at h2
    rw [tVal, Nat.pow_succ]
    omega
theorem tok_val {tl p : Nat} {tb : Nat → Nat} (h : tTy tl tb p = 2) : tVal tb p (tEnd tl tb p - p) < 1000 := by
  obtain ⟨h1, h2⟩ := tok_num h
  have h3 := tVal_lt _ h2
  have h4 : 10 ^ (tEnd tl tb p - p) ≤ 10 ^ 3 := Nat.pow_le_pow_right (by omega) h1
  omega
theorem tTy_le (tl : Nat) (tb : Nat → Nat) (p : Nat) : tTy tl tb p ≤ 4 := by
  unfold tTy
  split
  · omega
  · split
    · omega
    · split
      · split <;> omega
      · split <;> omega
/-- the number of a fault, 0 when there is none, of a number from lo to hi at the token that begins at p -/
def rNum (tl : Nat) (tb : Nat → Nat) (p lo hi : Nat) : Nat := if tTy tl tb p = 2 then (if lo ≤ tVal tb p (tEnd tl tb p - p) ∧ tVal tb p (tEnd tl tb p - p) ≤ hi then 0 else 2) else 1
def rSpt (tl : Nat) (tb : Nat → Nat) (p hi : Nat) : Nat := if rNum tl tb p 0 hi = 0 then (if tVal tb p (tEnd tl tb p - p) % 2 = 0 then 0 else 2) else rNum tl tb p 0 hi
def rFlt (x y : Nat) : Nat := if y = 0 then x else y
def sWord (tb : Nat → Nat) (a f t i : Nat) : Bool := decide (t = 1) && (decide (a - f = tx_len i) && sAll (fun k => decide (nI (tb (f + k)) = tx_ch i k)) (tx_len i))
set_option maxHeartbeats 4000000 in
set_option maxRecDepth 100000 in
theorem c_hasFault {G : vm_G} {σ : vm_M} {a f t v x y : Nat} : vm_RI G 0 mX3_hasFault [.ref 2, .int (nI y)] (vm_Rd σ (a, f, t, v, x)) (fun r σ' => r = nI 0 ∧ σ' = vm_Rd σ (a, f, t, v, y)) := by
  refine vm_int (y := mX3_hasFault) (by decide) (Nat.le_of_ble_eq_true rfl) (ls0 := [some (.ref 2), some (.int (nI y))]) rfl rfl (fun C F K => ?_)
  have F : vm_F G C cX3_hasFault RX3 2 _ := F
  show vm_Ex G C 2 0 [some (.ref 2), some (.int (nI y))] [] _
  refine q_aload_n F 0 dX3_hasFault_0 rfl rfl ?_
  refine q_iload_n F 1 dX3_hasFault_1 rfl rfl ?_
  refine prX3_31 F dX3_hasFault_2 ?_
  refine q_iconst F (nI 0) dX3_hasFault_5 (by decide) ?_
  exact K _ _ _ _ (⟨rfl, rfl⟩) dX3_hasFault_6 (by decide)
set_option maxHeartbeats 4000000 in
set_option maxRecDepth 100000 in
theorem c_readsSign {G : vm_G} {σ : vm_M} {tl : Nat} {tb : Nat → Nat} (hT : cTape σ tl tb) {a f t v x : Nat} (ha : a ≤ tl) : vm_RI G 3 mX3_readsSign [.ref 2] (vm_Rd σ (a, f, t, v, x)) (fun r σ' => ∃ t2 v2, r = bI (decide (tTy tl tb (tSk tl tb a) = 3)) ∧ σ' = vm_Rd σ (tEnd tl tb (tSk tl tb a), (tSk tl tb a), t2, v2, if tTy tl tb (tSk tl tb a) = 3 then x else 1)) := by
  refine vm_int (y := mX3_readsSign) (by decide) (Nat.le_of_ble_eq_true rfl) (ls0 := [some (.ref 2)]) rfl rfl (fun C F K => ?_)
  have F : vm_F G C cX3_readsSign RX3 1 _ := F
  show vm_Ex G C 1 0 [some (.ref 2)] [] _
  refine q_aload_n F 0 dX3_readsSign_0 rfl rfl ?_
  refine iX3_38 F dX3_readsSign_1 (c_next hT ha) (by decide) sh_2 rfl rfl (Nat.le_of_ble_eq_true rfl) (fun σ_1 h_1 => ?_)
  obtain ⟨⟨a2, f2, t2, v2, x2⟩, rfl, ⟨e1, e2, e3, e4, e5⟩, e6⟩ := h_1
  dsimp only at e1 e2 e3 e4 e6
  subst e1 e2 e3 e6
  have hty := tTy_le tl tb (tSk tl tb a)
  refine q_aload_n F 0 dX3_readsSign_4 rfl rfl ?_
  refine grX3_25 F dX3_readsSign_5 ?_
  refine q_iconst F (nI 3) dX3_readsSign_8 (by decide) ?_
  refine n_eq F 20 dX3_readsSign_9 (by decide) (by omega) (by omega) (fun c_9 => ?_) (fun c_9 => ?_)
  · refine q_iconst F (nI 1) dX3_readsSign_20 (by decide) ?_
    refine q_goto F 25 dX3_readsSign_21 (by decide) ?_
    refine K _ _ _ _ ?_ dX3_readsSign_25 (by decide)
    refine ⟨_, _, ?_, by simp only [c_9, if_true, if_false]; rfl⟩
    simp [c_9, bI, nI_one, nI_0]
  · refine q_aload_n F 0 dX3_readsSign_12 rfl rfl ?_
    refine q_iconst F (nI 1) dX3_readsSign_13 (by decide) ?_
    refine iX3_47 F dX3_readsSign_14 (c_hasFault) (by decide) sh_2 rfl rfl (Nat.le_of_ble_eq_true rfl) (fun v_14 σ_14 h_14 => ?_)
    obtain ⟨rfl, rfl⟩ := h_14
    refine z_eq F 24 dX3_readsSign_17 (by decide) (by omega) (fun c_17 => ?_) (fun c_17 => ?_)
    · refine q_iconst F (nI 0) dX3_readsSign_24 (by decide) ?_
      refine K _ _ _ _ ?_ dX3_readsSign_25 (by decide)
      refine ⟨_, _, ?_, by simp only [c_9, if_true, if_false]; rfl⟩
      simp [c_9, bI, nI_one, nI_0]
    · exact absurd rfl c_17
set_option maxHeartbeats 4000000 in
set_option maxRecDepth 100000 in
theorem c_readsNumber {G : vm_G} {σ : vm_M} {tl : Nat} {tb : Nat → Nat} (hT : cTape σ tl tb) {a f t v x : Nat} (ha : a ≤ tl) {lo hi : Nat} (hlo : lo < 2 ^ 31) (hhi : hi < 2 ^ 31) : vm_RI G 3 mX3_readsNumber [.ref 2, .int (nI lo), .int (nI hi)] (vm_Rd σ (a, f, t, v, x)) (fun r σ' => ∃ t2 v2, r = bI (decide (rNum tl tb (tSk tl tb a) lo hi = 0)) ∧ σ' = vm_Rd σ (tEnd tl tb (tSk tl tb a), (tSk tl tb a), t2, v2, rFlt x (rNum tl tb (tSk tl tb a) lo hi)) ∧ (rNum tl tb (tSk tl tb a) lo hi = 0 → v2 = tVal tb (tSk tl tb a) (tEnd tl tb (tSk tl tb a) - (tSk tl tb a)) ∧ lo ≤ v2 ∧ v2 ≤ hi)) := by
  refine vm_int (y := mX3_readsNumber) (by decide) (Nat.le_of_ble_eq_true rfl) (ls0 := [some (.ref 2), some (.int (nI lo)), some (.int (nI hi))]) rfl rfl (fun C F K => ?_)
  have F : vm_F G C cX3_readsNumber RX3 3 _ := F
  show vm_Ex G C 3 0 [some (.ref 2), some (.int (nI lo)), some (.int (nI hi))] [] _
  refine q_aload_n F 0 dX3_readsNumber_0 rfl rfl ?_
  refine iX3_38 F dX3_readsNumber_1 (c_next hT ha) (by decide) sh_2 rfl rfl (Nat.le_of_ble_eq_true rfl) (fun σ_1 h_1 => ?_)
  obtain ⟨⟨a2, f2, t2, v2, x2⟩, rfl, ⟨e1, e2, e3, e4, e5⟩, e6⟩ := h_1
  dsimp only at e1 e2 e3 e4 e6
  subst e1 e2 e3 e6
  have hty := tTy_le tl tb (tSk tl tb a)
  refine q_aload_n F 0 dX3_readsNumber_4 rfl rfl ?_
  refine grX3_25 F dX3_readsNumber_5 ?_
  refine q_iconst F (nI 2) dX3_readsNumber_8 (by decide) ?_
  refine n_eq F 18 dX3_readsNumber_9 (by decide) (by omega) (by omega) (fun c_9 => ?_) (fun c_9 => ?_)
  · have hv3 := tok_val c_9
    have e4 := e4 c_9
    subst e4
    refine q_aload_n F 0 dX3_readsNumber_18 rfl rfl ?_
    refine grX3_28 F dX3_readsNumber_19 ?_
    refine q_iload_n F 1 dX3_readsNumber_22 rfl rfl ?_
    refine n_lt F 34 dX3_readsNumber_23 (by decide) (by omega) (by omega) (fun c_23 => ?_) (fun c_23 => ?_)
    · refine q_aload_n F 0 dX3_readsNumber_34 rfl rfl ?_
      refine q_iconst F (nI 2) dX3_readsNumber_35 (by decide) ?_
      refine iX3_47 F dX3_readsNumber_36 (c_hasFault) (by decide) sh_2 rfl rfl (Nat.le_of_ble_eq_true rfl) (fun v_36 σ_36 h_36 => ?_)
      obtain ⟨rfl, rfl⟩ := h_36
      refine z_eq F 46 dX3_readsNumber_39 (by decide) (by omega) (fun c_39 => ?_) (fun c_39 => ?_)
      · refine q_iconst F (nI 0) dX3_readsNumber_46 (by decide) ?_
        refine K _ _ _ _ ?_ dX3_readsNumber_47 (by decide)
        have e9 : rNum tl tb (tSk tl tb a) lo hi = 2 := by rw [rNum, if_pos c_9, if_neg (by omega)]
        rw [e9]
        exact ⟨_, _, by decide, rfl, fun _ => by omega⟩
      · exact absurd rfl c_39
    · refine q_aload_n F 0 dX3_readsNumber_26 rfl rfl ?_
      refine grX3_28 F dX3_readsNumber_27 ?_
      refine q_iload_n F 2 dX3_readsNumber_30 rfl rfl ?_
      refine n_le F 42 dX3_readsNumber_31 (by decide) (by omega) (by omega) (fun c_31 => ?_) (fun c_31 => ?_)
      · refine q_iconst F (nI 1) dX3_readsNumber_42 (by decide) ?_
        refine q_goto F 47 dX3_readsNumber_43 (by decide) ?_
        refine K _ _ _ _ ?_ dX3_readsNumber_47 (by decide)
        have e9 : rNum tl tb (tSk tl tb a) lo hi = 0 := by rw [rNum, if_pos c_9, if_pos (by omega)]
        rw [e9]
        exact ⟨_, _, by decide, rfl, fun _ => ⟨rfl, by omega, by omega⟩⟩
      · refine q_aload_n F 0 dX3_readsNumber_34 rfl rfl ?_
        refine q_iconst F (nI 2) dX3_readsNumber_35 (by decide) ?_
        refine iX3_47 F dX3_readsNumber_36 (c_hasFault) (by decide) sh_2 rfl rfl (Nat.le_of_ble_eq_true rfl) (fun v_36 σ_36 h_36 => ?_)
        obtain ⟨rfl, rfl⟩ := h_36
        refine z_eq F 46 dX3_readsNumber_39 (by decide) (by omega) (fun c_39 => ?_) (fun c_39 => ?_)
        · refine q_iconst F (nI 0) dX3_readsNumber_46 (by decide) ?_
          refine K _ _ _ _ ?_ dX3_readsNumber_47 (by decide)
          have e9 : rNum tl tb (tSk tl tb a) lo hi = 2 := by rw [rNum, if_pos c_9, if_neg (by omega)]
          rw [e9]
          exact ⟨_, _, by decide, rfl, fun _ => by omega⟩
        · exact absurd rfl c_39
  · refine q_aload_n F 0 dX3_readsNumber_12 rfl rfl ?_
    refine q_iconst F (nI 1) dX3_readsNumber_13 (by decide) ?_
    refine iX3_47 F dX3_readsNumber_14 (c_hasFault) (by decide) sh_2 rfl rfl (Nat.le_of_ble_eq_true rfl) (fun v_14 σ_14 h_14 => ?_)
    obtain ⟨rfl, rfl⟩ := h_14
    refine K _ _ _ _ ?_ dX3_readsNumber_17 (by decide)
    have e9 : rNum tl tb (tSk tl tb a) lo hi = 1 := by rw [rNum, if_neg c_9]
    rw [e9]
    exact ⟨_, _, by decide, rfl, fun _ => by omega⟩
set_option maxHeartbeats 4000000 in
set_option maxRecDepth 100000 in
theorem c_readsSpot {G : vm_G} {σ : vm_M} {tl : Nat} {tb : Nat → Nat} (hT : cTape σ tl tb) {a f t v x : Nat} (ha : a ≤ tl) {hi : Nat} (hhi : hi < 2 ^ 31) : vm_RI G 4 mX3_readsSpot [.ref 2, .int (nI hi)] (vm_Rd σ (a, f, t, v, x)) (fun r σ' => ∃ t2 v2, r = bI (decide (rSpt tl tb (tSk tl tb a) hi = 0)) ∧ σ' = vm_Rd σ (tEnd tl tb (tSk tl tb a), (tSk tl tb a), t2, v2, rFlt x (rSpt tl tb (tSk tl tb a) hi)) ∧ (rSpt tl tb (tSk tl tb a) hi = 0 → v2 = tVal tb (tSk tl tb a) (tEnd tl tb (tSk tl tb a) - (tSk tl tb a)) ∧ v2 ≤ hi ∧ v2 % 2 = 0)) := by
  refine vm_int (y := mX3_readsSpot) (by decide) (Nat.le_of_ble_eq_true rfl) (ls0 := [some (.ref 2), some (.int (nI hi))]) rfl rfl (fun C F K => ?_)
  have F : vm_F G C cX3_readsSpot RX3 2 _ := F
  show vm_Ex G C 2 0 [some (.ref 2), some (.int (nI hi))] [] _
  refine q_aload_n F 0 dX3_readsSpot_0 rfl rfl ?_
  refine q_iconst F (nI 0) dX3_readsSpot_1 (by decide) ?_
  refine q_iload_n F 1 dX3_readsSpot_2 rfl rfl ?_
  refine iX3_62 F dX3_readsSpot_3 (c_readsNumber hT ha (lo := 0) (by omega) hhi) (by decide) sh_2 rfl rfl (Nat.le_of_ble_eq_true rfl) (fun v_3 σ_3 h_3 => ?_)
  obtain ⟨t2, v2, rfl, rfl, e4⟩ := h_3
  refine b_ne F 11 dX3_readsSpot_6 (by decide) (fun c_6 => ?_) (fun c_6 => ?_)
  · have c_6 : rNum tl tb (tSk tl tb a) 0 hi = 0 := by simpa using c_6
    obtain ⟨e4, e7, e8⟩ := e4 c_6
    refine q_aload_n F 0 dX3_readsSpot_11 rfl rfl ?_
    refine grX3_28 F dX3_readsSpot_12 ?_
    refine q_iconst F (nI 2) dX3_readsSpot_15 (by decide) ?_
    refine q_irem F dX3_readsSpot_16 (by decide) (pk_rem (by omega) (by omega) (by omega)) ?_
    refine z_eq F 28 dX3_readsSpot_17 (by decide) (by omega) (fun c_17 => ?_) (fun c_17 => ?_)
    · refine q_iconst F (nI 1) dX3_readsSpot_28 (by decide) ?_
      refine q_goto F 33 dX3_readsSpot_29 (by decide) ?_
      refine K _ _ _ _ ?_ dX3_readsSpot_33 (by decide)
      have e9 : rSpt tl tb (tSk tl tb a) hi = 0 := by
        simp only [rSpt, if_pos c_6]; rw [if_pos (by omega)]
      rw [e9]
      exact ⟨_, _, by decide, by rw [c_6], fun _ => ⟨e4, e8, by omega⟩⟩
    · refine q_aload_n F 0 dX3_readsSpot_20 rfl rfl ?_
      refine q_iconst F (nI 2) dX3_readsSpot_21 (by decide) ?_
      refine iX3_47 F dX3_readsSpot_22 (c_hasFault) (by decide) sh_2 rfl rfl (Nat.le_of_ble_eq_true rfl) (fun v_22 σ_22 h_22 => ?_)
      obtain ⟨rfl, rfl⟩ := h_22
      refine z_eq F 32 dX3_readsSpot_25 (by decide) (by omega) (fun c_25 => ?_) (fun c_25 => ?_)
      · refine q_iconst F (nI 0) dX3_readsSpot_32 (by decide) ?_
        refine K _ _ _ _ ?_ dX3_readsSpot_33 (by decide)
        have e9 : rSpt tl tb (tSk tl tb a) hi = 2 := by
          simp only [rSpt, if_pos c_6]; rw [if_neg (by omega)]
        rw [e9]
        exact ⟨_, _, by decide, rfl, fun z => by omega⟩
      · exact absurd rfl c_25
  · have c_6 : ¬ rNum tl tb (tSk tl tb a) 0 hi = 0 := by simpa using c_6
    refine q_iconst F (nI 0) dX3_readsSpot_9 (by decide) ?_
    refine K _ _ _ _ ?_ dX3_readsSpot_10 (by decide)
    have e9 : rSpt tl tb (tSk tl tb a) hi = rNum tl tb (tSk tl tb a) 0 hi := by
      simp only [rSpt, if_neg c_6]
    rw [e9]
    exact ⟨_, _, by simp [c_6, bI, nI_0], rfl, fun z => absurd z c_6⟩
set_option maxHeartbeats 4000000 in
set_option maxRecDepth 100000 in
theorem c_isWord {G : vm_G} {σ : vm_M} {tl : Nat} {tb : Nat → Nat} (hT : cTape σ tl tb) {a f t v x w : Nat} (hw : w < 7) (hfa : f ≤ a) (ha : a ≤ tl) (ht : t ≤ 4) : vm_RI G 4 mX3_isWord [.ref 2, .ref (2000 + w)] (vm_Rd σ (a, f, t, v, x)) (fun r σ' => r = bI (sWord tb a f t w) ∧ σ' = vm_Rd σ (a, f, t, v, x)) := by
  refine vm_int (y := mX3_isWord) (by decide) (Nat.le_of_ble_eq_true rfl) (ls0 := [some (.ref 2), some (.ref (2000 + w)), none]) rfl rfl (fun C F K => ?_)
  have F : vm_F G C cX3_isWord RX3 3 _ := F
  show vm_Ex G C 3 0 [some (.ref 2), some (.ref (2000 + w)), none] [] _
  have h400 := hT.2.1
  have h7 := tx_len_small hw
  refine q_aload_n F 0 dX3_isWord_0 rfl rfl ?_
  refine grX3_25 F dX3_isWord_1 ?_
  refine q_iconst F (nI 1) dX3_isWord_4 (by decide) ?_
  refine n_ne F 24 dX3_isWord_5 (by decide) (by omega) (by omega) (fun c_5 => ?_) (fun c_5 => ?_)
  · refine q_iconst F (nI 0) dX3_isWord_24 (by decide) ?_
    refine K _ _ _ _ ?_ dX3_isWord_25 (by decide)
    exact ⟨by simp [sWord, c_5, bI, nI_0], rfl⟩
  · refine q_aload_n F 0 dX3_isWord_8 rfl rfl ?_
    refine grX3_18 F dX3_isWord_9 ?_
    refine q_aload_n F 0 dX3_isWord_12 rfl rfl ?_
    refine grX3_22 F dX3_isWord_13 ?_
    refine n_isub F dX3_isWord_16 hfa ?_
    refine q_aload_n F 1 dX3_isWord_17 rfl rfl ?_
    refine q_ti (As := []) kX3_134 rfl hw F dX3_isWord_18 (c_strlen hw) (by decide) rfl (Nat.le_of_ble_eq_true rfl) (fun v_18 σ_18 h_18 => ?_)
    obtain ⟨rfl, rfl⟩ := h_18
    refine n_eq F 26 dX3_isWord_21 (by decide) (by omega) (by omega) (fun c_21 => ?_) (fun c_21 => ?_)
    · refine q_iconst F (nI 0) dX3_isWord_26 (by decide) ?_
      refine q_istore_n2 F dX3_isWord_27 (by decide) rfl ?_
      have L : ∀ m i, (∀ k, k < i → nI (tb (f + k)) = tx_ch w k) → i + m = tx_len w → vm_Ex G C 3 28 [some (.ref 2), some (.ref (2000 + w)), some (.int (nI i))] [] (vm_Rd σ (a, f, t, v, x)) := by
        intro m
        induction m with
        | zero =>
          intro i hh hi
          refine q_iload_n F 2 dX3_isWord_28 rfl rfl ?_
          refine q_aload_n F 1 dX3_isWord_29 rfl rfl ?_
          refine q_ti (As := []) kX3_134 rfl hw F dX3_isWord_30 (c_strlen hw) (by decide) rfl (Nat.le_of_ble_eq_true rfl) (fun v_30 σ_30 h_30 => ?_)
          obtain ⟨rfl, rfl⟩ := h_30
          refine n_ge F 66 dX3_isWord_33 (by decide) (by omega) (by omega) (fun c_33 => ?_) (fun c_33 => ?_)
          · refine q_iconst F (nI 1) dX3_isWord_66 (by decide) ?_
            refine K _ _ _ _ ?_ dX3_isWord_67 (by decide)
            refine ⟨?_, rfl⟩
            have e : sWord tb a f t w = true := by
              unfold sWord sAll
              rw [sF_none (fun k hk => by simp [hh k (by omega)])]
              simp [c_5, c_21]
            rw [e]; decide
          · omega
        | succ m ih =>
          intro i hh hi
          refine q_iload_n F 2 dX3_isWord_28 rfl rfl ?_
          refine q_aload_n F 1 dX3_isWord_29 rfl rfl ?_
          refine q_ti (As := []) kX3_134 rfl hw F dX3_isWord_30 (c_strlen hw) (by decide) rfl (Nat.le_of_ble_eq_true rfl) (fun v_30 σ_30 h_30 => ?_)
          obtain ⟨rfl, rfl⟩ := h_30
          refine n_ge F 66 dX3_isWord_33 (by decide) (by omega) (by omega) (fun c_33 => ?_) (fun c_33 => ?_)
          · omega
          · refine q_aload_n F 0 dX3_isWord_36 rfl rfl ?_
            refine gX3_12 F dX3_isWord_37 sh_2 rfl ?_
            refine gX3_120 F dX3_isWord_40 sh_3 rfl ?_
            refine q_aload_n F 0 dX3_isWord_43 rfl rfl ?_
            refine grX3_22 F dX3_isWord_44 ?_
            refine q_iload_n F 2 dX3_isWord_47 rfl rfl ?_
            refine n_iadd F dX3_isWord_48 ?_
            refine q_cald F dX3_isWord_49 sh_4 (by omega) (by decide) ?_
            refine q_top (.int (nI (tb (f + i)))) (congrArg Value.int (by rw [vm_Rd_n (by omega)]; exact (hT.2.2 _ (by omega)).1)) ?_
            refine q_aload_n F 1 dX3_isWord_50 rfl rfl ?_
            refine q_iload_n F 2 dX3_isWord_51 rfl rfl ?_
            refine q_ti (As := [.int (nI i)]) kX3_138 rfl hw F dX3_isWord_52 (c_charAt hw (by omega)) (by decide) rfl (Nat.le_of_ble_eq_true rfl) (fun v_52 σ_52 h_52 => ?_)
            obtain ⟨rfl, rfl⟩ := h_52
            refine q_icmp_eq F 60 dX3_isWord_55 (by decide) (fun c_55 => ?_) (fun c_55 => ?_)
            · refine q_iinc2 F _ dX3_isWord_60 (nI_inc _) (by decide) rfl ?_
              refine q_goto F 28 dX3_isWord_63 (by decide) ?_
              exact ih (i + 1) (fun k hk => by
                rcases Nat.lt_or_ge k i with q | q
                · exact hh k q
                · rw [show k = i by omega]; exact c_55) (by omega)
            · refine q_iconst F (nI 0) dX3_isWord_58 (by decide) ?_
              refine K _ _ _ _ ?_ dX3_isWord_59 (by decide)
              refine ⟨?_, rfl⟩
              have e : sWord tb a f t w = false := by
                unfold sWord sAll
                rw [sF_at (i := i) (fun k hk => by simp [hh k (by omega)]) (by simp [c_55]) (by omega)]
                simp
                omega
              rw [e]; decide
      exact L (tx_len w) 0 (fun k hk => absurd hk (Nat.not_lt_zero _)) (by omega)
    · refine q_iconst F (nI 0) dX3_isWord_24 (by decide) ?_
      refine K _ _ _ _ ?_ dX3_isWord_25 (by decide)
      exact ⟨by simp [sWord, c_21, bI, nI_0], rfl⟩
