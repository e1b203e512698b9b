theorem or64 : ∀ a, a < 64 → ∀ b, b < 64 → nI a ||| nI b = nI (a ||| b) ∧ (a ||| b) < 64 := by decide +kernel
theorem sBit_nI : ∀ h, h < 6 → sBit h = nI (2 ^ h) ∧ 2 ^ h < 64 := by decide +kernel
theorem pop_nI : ∀ q, q < 64 → ∃ c, c < 7 ∧ sPop (nI q) = nI c := by decide +kernel
theorem sHold_6 {e : Nat} {v : vm_V} (h : V_n v ≤ 6) : sHold e v < 6 := by
  have := sF_le (fun p => V_er v p == e) (V_n v - 1)
  unfold sHold
  omega
theorem sS_nI {e : Nat} {v : vm_V} (h : V_n v ≤ 6) : ∀ i, ∃ q, q < 64 ∧ sS e v i = nI q
  | 0 => ⟨_, (sBit_nI _ (sHold_6 h)).2, (sBit_nI _ (sHold_6 h)).1⟩
  | i + 1 => by
    obtain ⟨q, hq, e1⟩ := sS_nI (e := e) h i
    have h6 : sHold e (sHs (i + 1) v) < 6 := sHold_6 (by rw [sHs_n]; exact h)
    obtain ⟨e2, h2⟩ := sBit_nI _ h6
    obtain ⟨e3, h3⟩ := or64 q hq _ h2
    exact ⟨_, h3, by rw [sS, e1, e2, e3]⟩
theorem sHand_nI {v : vm_V} {e n : Nat} (h : V_n v ≤ 6) : ∀ s, ∃ A, A ≤ 6 * (sHand v e n s).2 ∧ (sHand v e n s).1 = nI A
  | 0 => ⟨0, Nat.le_refl _, rfl⟩
  | s + 1 => by
    obtain ⟨A, hA, e1⟩ := sHand_nI (e := e) (n := n) h s
    unfold sHand
    by_cases c : sCan (V_kd v) (V_n v) s = true
    · rw [if_pos c]
      obtain ⟨q, hq, e2⟩ := sS_nI (e := e) (v := sOut s v) (show V_n (sOut s v) ≤ 6 from h) n
      obtain ⟨c2, hc, e3⟩ := pop_nI q hq
      refine ⟨A + c2, ?_, ?_⟩
      · show A + c2 ≤ 6 * ((sHand v e n s).2 + 1); omega
      · show (sHand v e n s).1 + sPop (sS e (sOut s v) n) = _
        rw [e1, e2, e3, nI_add]
    · rw [if_neg c]
      exact ⟨A, hA, e1⟩
def sCt (f : Nat → Bool) : Nat → Nat
  | 0 => 0
  | s + 1 => if f s then sCt f s + 1 else sCt f s
theorem sHand_ct (v : vm_V) (e n : Nat) : ∀ s, (sHand v e n s).2 = sCt (fun s => sCan (V_kd v) (V_n v) s) s
  | 0 => rfl
  | s + 1 => by
    have := sHand_ct v e n s
    unfold sHand sCt
    by_cases c : sCan (V_kd v) (V_n v) s = true
    · rw [if_pos c, if_pos c, ← this]
    · rw [if_neg c, if_neg c, ← this]
theorem sCt_congr {f g : Nat → Bool} (h : ∀ s, f s = g s) : ∀ s, sCt f s = sCt g s
  | 0 => rfl
  | s + 1 => by rw [sCt, sCt, h s, sCt_congr h s]
theorem sCt_le (f : Nat → Bool) : ∀ s, sCt f s ≤ s
  | 0 => Nat.le_refl 0
  | s + 1 => by
    have := sCt_le f s
    unfold sCt
    split <;> omega
def cowM (c p : Nat) : Nat := if c.testBit p then 5 else 0
theorem ct_pow : ∀ n, n < 7 → ∀ c, c < 64 → ∃ t, t < 7 ∧ sCt (fun s => sCan (cowM c) n s) (2 ^ n) = 2 ^ t := by decide +kernel
theorem mask6 : ∀ b0 b1 b2 b3 b4 b5 : Bool, ∃ c, c < 64 ∧ c.testBit 0 = b0 ∧ c.testBit 1 = b1 ∧ c.testBit 2 = b2 ∧ c.testBit 3 = b3 ∧ c.testBit 4 = b4 ∧ c.testBit 5 = b5 := fun b0 b1 b2 b3 b4 b5 => ⟨b0.toNat + 2 * b1.toNat + 4 * b2.toNat + 8 * b3.toNat + 16 * b4.toNat + 32 * b5.toNat, by cases b0 <;> cases b1 <;> cases b2 <;> cases b3 <;> cases b4 <;> cases b5 <;> decide⟩
theorem ct_pow2 {kd : Nat → Nat} {n : Nat} (hn : n ≤ 6) : ∃ t, t < 7 ∧ sCt (fun s => sCan kd n s) (2 ^ n) = 2 ^ t := by
  obtain ⟨c, hc, h0, h1, h2, h3, h4, h5⟩ := mask6 (kd 0 == 5) (kd 1 == 5) (kd 2 == 5) (kd 3 == 5) (kd 4 == 5) (kd 5 == 5)
  have hb : ∀ p, p < 6 → (kd p == 5) = (cowM c p == 5) := by
    intro p hp
    have e : c.testBit p = (kd p == 5) := by
      rcases (show p = 0 ∨ p = 1 ∨ p = 2 ∨ p = 3 ∨ p = 4 ∨ p = 5 by omega) with rfl | rfl | rfl | rfl | rfl | rfl <;> assumption
    unfold cowM
    rw [e]
    cases (kd p == 5) <;> rfl
  obtain ⟨t, ht, e⟩ := ct_pow n (by omega) c hc
  refine ⟨t, ht, ?_⟩
  rw [← e]
  refine sCt_congr (fun s => ?_) _
  unfold sCan
  rw [sF_congr (fun p hp => by rw [hb p (by omega)])]
def sRed : Nat → Nat × Nat → Nat × Nat
  | 0, s => s
  | k + 1, s => if 1 < s.2 ∧ s.1 % 2 = 0 then sRed k (s.1 / 2, s.2 / 2) else s
theorem red_ok : ∀ t, t < 7 → ∀ A, A < 400 → sRed 7 (A, 2 ^ t) = (A / Nat.gcd A (2 ^ t), 2 ^ t / Nat.gcd A (2 ^ t)) := by decide +kernel
set_option maxHeartbeats 4000000 in
set_option maxRecDepth 100000 in
theorem k_hands {G : vm_G} {σ : vm_M} {T : vm_T} (hC : CInv σ T) (hI : SInv T) (e n w : Int32) : vm_RI G 4 mX7_hands [.ref 0, .int e, .int n, .int w] σ (cPost σ (aHands T e n w)) := by
  refine vm_int (y := mX7_hands) (by decide) (Nat.le_of_ble_eq_true rfl) (ls0 := [some (.ref 0), some (.int e), some (.int n), some (.int w), none, none, none]) rfl rfl (fun C F K => ?_)
  have F : vm_F G C cX7_hands RX7 7 _ := F
  show vm_Ex G C 7 0 [some (.ref 0), some (.int e), some (.int n), some (.int w), none, none, none] [] _
  obtain ⟨hRows, hTape, hNow, hPast, hImg, hTr, hFlt, hFnd, hDr⟩ := id hC
  have hN := hNow.2
  have hOk : sOk (T_nw T) := hI.1.1
  have hn6 : V_n (T_nw T) ≤ 6 := hOk.1
  refine q_iload_n F 1 dX7_hands_0 rfl rfl ?_
  refine q_aload_n F 0 dX7_hands_1 rfl rfl ?_
  refine gX7_25 F dX7_hands_2 sh_0 rfl ?_
  refine gX7_149 F dX7_hands_5 path5.1 rfl ?_
  refine q_top (.int (nI (V_n (T_nw T)))) (congrArg Value.int (hN.n)) ?_
  refine iX7_76 F dX7_hands_8 (c_isWithin e (by omega)) (by decide) rfl rfl (Nat.le_of_ble_eq_true rfl) (fun v_8 σ_8 h_8 => ?_)
  obtain ⟨rfl, rfl⟩ := h_8
  refine b_eq F 29 dX7_hands_11 (by decide) (fun c_11 => ?_) (fun c_11 => ?_)
  · refine q_ldc F dX7_hands_29 wX7_80 ?_
    refine K _ _ _ _ ?_ dX7_hands_31 rfl
    have e : aHands T e n w = (sBAD, T) := by
      simp [aHands, c_11]
    rw [e]
    exact ⟨rfl, hC, fun _ _ => rfl⟩
  · obtain ⟨j, hj, rfl⟩ := wi_of c_11
    have hx := xN_nI (show j < 2 ^ 31 by omega)
    have hN64 := pow6 hn6
    obtain ⟨N, hNN⟩ : ∃ N, N = 2 ^ V_n (T_nw T) := ⟨_, rfl⟩
    rw [← hNN] at hN64
    refine q_iload_n F 2 dX7_hands_14 rfl rfl ?_
    refine iX7_182 F dX7_hands_15 (c_isForetold n) (by decide) rfl rfl (Nat.le_of_ble_eq_true rfl) (fun v_15 σ_15 h_15 => ?_)
    obtain ⟨rfl, rfl⟩ := h_15
    refine b_eq F 29 dX7_hands_18 (by decide) (fun c_18 => ?_) (fun c_18 => ?_)
    · refine q_ldc F dX7_hands_29 wX7_80 ?_
      refine K _ _ _ _ ?_ dX7_hands_31 rfl
      have e : aHands T (nI j) n w = (sBAD, T) := by
        simp [aHands, c_18]
      rw [e]
      exact ⟨rfl, hC, fun _ _ => rfl⟩
    · obtain ⟨m, hm, rfl⟩ := wi_of c_18
      have hxm := xN_nI (show m < 2 ^ 31 by omega)
      refine q_iload_n F 3 dX7_hands_21 rfl rfl ?_
      refine q_iconst F (nI 2) dX7_hands_22 (by decide) ?_
      refine iX7_76 F dX7_hands_23 (c_isWithin w (by decide)) (by decide) rfl rfl (Nat.le_of_ble_eq_true rfl) (fun v_23 σ_23 h_23 => ?_)
      obtain ⟨rfl, rfl⟩ := h_23
      refine b_ne F 32 dX7_hands_26 (by decide) (fun c_26 => ?_) (fun c_26 => ?_)
      · obtain ⟨w1, hw1, rfl⟩ := wi_of c_26
        refine q_iconst F (nI 0) dX7_hands_32 (by decide) ?_
        refine q_istore4 F dX7_hands_33 (by decide) rfl ?_
        refine q_iconst F (nI 0) dX7_hands_35 (by decide) ?_
        refine q_istore5 F dX7_hands_36 (by decide) rfl ?_
        refine q_iconst F (nI 0) dX7_hands_38 (by decide) ?_
        refine q_istore6 F dX7_hands_39 (by decide) rfl ?_
        have L : ∀ k s, ∀ σ2 : vm_M, fz σ_23 σ2 → s + k = N → vm_Ex G C 7 41 [some (.ref 0), some (.int (nI j)), some (.int (nI m)), some (.int (nI w1)), some (.int (sHand (T_nw T) j m s).1), some (.int (nI (sHand (T_nw T) j m s).2)), some (.int (nI s))] [] σ2 := by
          intro k
          induction k with
          | zero =>
            intro s σ2 g0 hi
            refine q_iload F 6 dX7_hands_41 rfl ?_
            refine q_aload_n F 0 dX7_hands_43 rfl rfl ?_
            refine gX7_25 F dX7_hands_44 sh_0 rfl ?_
            refine iX7_197 F dX7_hands_47 (d_sets (hN.fr (fun o a b => g0 o (by omega) (by omega))) path5 hOk) (by decide) path5.1 rfl rfl (Nat.le_of_ble_eq_true rfl) (fun v_47 σ_47 h_47 => ?_)
            obtain ⟨rfl, rfl⟩ := h_47
            refine q_top (.int (nI N)) (congrArg Value.int (by rw [hNN])) ?_
            refine n_ge F 88 dX7_hands_50 (by decide) (by omega) (by omega) (fun c_50 => ?_) (fun c_50 => ?_)
            · obtain ⟨A, hA, eA⟩ := sHand_nI (v := T_nw T) (e := j) (n := m) hn6 s
              obtain ⟨t, ht, et⟩ := ct_pow2 (kd := V_kd (T_nw T)) hn6
              rw [← hNN] at et
              have hsN : s = N := by omega
              have eB : (sHand (T_nw T) j m N).2 = 2 ^ t := by rw [sHand_ct]; exact et
              have hB64 : 2 ^ t ≤ 64 := pow6 (show t ≤ 6 by omega)
              rw [hsN] at eA hA ⊢
              rw [eB] at hA ⊢
              obtain ⟨RR, hRR⟩ : ∃ RR, sRed 7 (A, 2 ^ t) = RR := ⟨_, rfl⟩
              rw [red_ok t ht A (by omega)] at hRR
              rw [eA]
              have LR : ∀ k i, ∀ b : Nat, b < 2 ^ k → b < 2 ^ 31 → i < 2 ^ 31 → sRed k (i, b) = RR → vm_Ex G C 7 88 [some (.ref 0), some (.int (nI j)), some (.int (nI m)), some (.int (nI w1)), some (.int (nI i)), some (.int (nI b)), some (.int (nI N))] [] σ_47 := by
                intro k
                induction k with
                | zero =>
                  intro i b hb hb2 hi2 hr
                  refine q_iload F 5 dX7_hands_88 rfl ?_
                  refine q_iconst F (nI 1) dX7_hands_90 (by decide) ?_
                  refine n_le F 116 dX7_hands_91 (by decide) (by omega) (by omega) (fun c_91 => ?_) (fun c_91 => ?_)
                  · have hR : (i, b) = RR := hr
                    refine q_iload_n F 3 dX7_hands_116 rfl rfl ?_
                    refine z_ne F 125 dX7_hands_117 (by decide) (by omega) (fun c_117 => ?_) (fun c_117 => ?_)
                    · refine q_iload F 5 dX7_hands_125 rfl ?_
                      refine K _ _ _ _ ?_ dX7_hands_127 rfl
                      have e : aHands T (nI j) (nI m) (nI w1) = ((if nI w1 = nI 0 then nI (xN (sHand (T_nw T) j m N).1 / Nat.gcd (xN (sHand (T_nw T) j m N).1) (sHand (T_nw T) j m N).2) else nI ((sHand (T_nw T) j m N).2 / Nat.gcd (xN (sHand (T_nw T) j m N).1) (sHand (T_nw T) j m N).2)), T) := by
                        unfold aHands
                        rw [hx, hxm, ← hNN, if_neg (by simp [c_11, c_18, c_26])]
                      rw [e, eA, xN_nI (by omega), eB]
                      have hr2 := hR.trans hRR.symm
                      exact ⟨(congrArg (fun z : Nat × Nat => nI z.2) hr2).trans (if_neg (show ¬ nI w1 = nI 0 from fun z => c_117 ((nI_eq (by omega) (by decide)).mp z))).symm, hC.fr (fun o a b c d => g0 o (by omega) (by omega)), fun o ho => g0 o (by omega) (by omega)⟩
                    · refine q_iload F 4 dX7_hands_120 rfl ?_
                      refine q_goto F 127 dX7_hands_122 (by decide) ?_
                      refine K _ _ _ _ ?_ dX7_hands_127 rfl
                      have e : aHands T (nI j) (nI m) (nI w1) = ((if nI w1 = nI 0 then nI (xN (sHand (T_nw T) j m N).1 / Nat.gcd (xN (sHand (T_nw T) j m N).1) (sHand (T_nw T) j m N).2) else nI ((sHand (T_nw T) j m N).2 / Nat.gcd (xN (sHand (T_nw T) j m N).1) (sHand (T_nw T) j m N).2)), T) := by
                        unfold aHands
                        rw [hx, hxm, ← hNN, if_neg (by simp [c_11, c_18, c_26])]
                      rw [e, eA, xN_nI (by omega), eB]
                      have hr2 := hR.trans hRR.symm
                      exact ⟨(congrArg (fun z : Nat × Nat => nI z.1) hr2).trans (if_pos (show nI w1 = nI 0 by rw [c_117])).symm, hC.fr (fun o a b c d => g0 o (by omega) (by omega)), fun o ho => g0 o (by omega) (by omega)⟩
                  · omega
                | succ k ih =>
                  intro i b hb hb2 hi2 hr
                  refine q_iload F 5 dX7_hands_88 rfl ?_
                  refine q_iconst F (nI 1) dX7_hands_90 (by decide) ?_
                  refine n_le F 116 dX7_hands_91 (by decide) (by omega) (by omega) (fun c_91 => ?_) (fun c_91 => ?_)
                  · have hR : (i, b) = RR := by
                      rw [sRed, if_neg (by intro z; have h9 : 1 < b := z.1; omega)] at hr
                      exact hr
                    refine q_iload_n F 3 dX7_hands_116 rfl rfl ?_
                    refine z_ne F 125 dX7_hands_117 (by decide) (by omega) (fun c_117 => ?_) (fun c_117 => ?_)
                    · refine q_iload F 5 dX7_hands_125 rfl ?_
                      refine K _ _ _ _ ?_ dX7_hands_127 rfl
                      have e : aHands T (nI j) (nI m) (nI w1) = ((if nI w1 = nI 0 then nI (xN (sHand (T_nw T) j m N).1 / Nat.gcd (xN (sHand (T_nw T) j m N).1) (sHand (T_nw T) j m N).2) else nI ((sHand (T_nw T) j m N).2 / Nat.gcd (xN (sHand (T_nw T) j m N).1) (sHand (T_nw T) j m N).2)), T) := by
                        unfold aHands
                        rw [hx, hxm, ← hNN, if_neg (by simp [c_11, c_18, c_26])]
                      rw [e, eA, xN_nI (by omega), eB]
                      have hr2 := hR.trans hRR.symm
                      exact ⟨(congrArg (fun z : Nat × Nat => nI z.2) hr2).trans (if_neg (show ¬ nI w1 = nI 0 from fun z => c_117 ((nI_eq (by omega) (by decide)).mp z))).symm, hC.fr (fun o a b c d => g0 o (by omega) (by omega)), fun o ho => g0 o (by omega) (by omega)⟩
                    · refine q_iload F 4 dX7_hands_120 rfl ?_
                      refine q_goto F 127 dX7_hands_122 (by decide) ?_
                      refine K _ _ _ _ ?_ dX7_hands_127 rfl
                      have e : aHands T (nI j) (nI m) (nI w1) = ((if nI w1 = nI 0 then nI (xN (sHand (T_nw T) j m N).1 / Nat.gcd (xN (sHand (T_nw T) j m N).1) (sHand (T_nw T) j m N).2) else nI ((sHand (T_nw T) j m N).2 / Nat.gcd (xN (sHand (T_nw T) j m N).1) (sHand (T_nw T) j m N).2)), T) := by
                        unfold aHands
                        rw [hx, hxm, ← hNN, if_neg (by simp [c_11, c_18, c_26])]
                      rw [e, eA, xN_nI (by omega), eB]
                      have hr2 := hR.trans hRR.symm
                      exact ⟨(congrArg (fun z : Nat × Nat => nI z.1) hr2).trans (if_pos (show nI w1 = nI 0 by rw [c_117])).symm, hC.fr (fun o a b c d => g0 o (by omega) (by omega)), fun o ho => g0 o (by omega) (by omega)⟩
                  · refine q_iload F 4 dX7_hands_94 rfl ?_
                    refine q_iconst F (nI 2) dX7_hands_96 (by decide) ?_
                    refine q_irem F dX7_hands_97 (by decide) rfl ?_
                    refine q_top (.int (nI (i % 2))) (congrArg Value.int (pk_rem (by omega) (by decide) (by decide))) ?_
                    refine z_ne F 116 dX7_hands_98 (by decide) (by omega) (fun c_98 => ?_) (fun c_98 => ?_)
                    · have hR : (i, b) = RR := by
                        rw [sRed, if_neg (by intro z; exact c_98 z.2)] at hr
                        exact hr
                      refine q_iload_n F 3 dX7_hands_116 rfl rfl ?_
                      refine z_ne F 125 dX7_hands_117 (by decide) (by omega) (fun c_117 => ?_) (fun c_117 => ?_)
                      · refine q_iload F 5 dX7_hands_125 rfl ?_
                        refine K _ _ _ _ ?_ dX7_hands_127 rfl
                        have e : aHands T (nI j) (nI m) (nI w1) = ((if nI w1 = nI 0 then nI (xN (sHand (T_nw T) j m N).1 / Nat.gcd (xN (sHand (T_nw T) j m N).1) (sHand (T_nw T) j m N).2) else nI ((sHand (T_nw T) j m N).2 / Nat.gcd (xN (sHand (T_nw T) j m N).1) (sHand (T_nw T) j m N).2)), T) := by
                          unfold aHands
                          rw [hx, hxm, ← hNN, if_neg (by simp [c_11, c_18, c_26])]
                        rw [e, eA, xN_nI (by omega), eB]
                        have hr2 := hR.trans hRR.symm
                        exact ⟨(congrArg (fun z : Nat × Nat => nI z.2) hr2).trans (if_neg (show ¬ nI w1 = nI 0 from fun z => c_117 ((nI_eq (by omega) (by decide)).mp z))).symm, hC.fr (fun o a b c d => g0 o (by omega) (by omega)), fun o ho => g0 o (by omega) (by omega)⟩
                      · refine q_iload F 4 dX7_hands_120 rfl ?_
                        refine q_goto F 127 dX7_hands_122 (by decide) ?_
                        refine K _ _ _ _ ?_ dX7_hands_127 rfl
                        have e : aHands T (nI j) (nI m) (nI w1) = ((if nI w1 = nI 0 then nI (xN (sHand (T_nw T) j m N).1 / Nat.gcd (xN (sHand (T_nw T) j m N).1) (sHand (T_nw T) j m N).2) else nI ((sHand (T_nw T) j m N).2 / Nat.gcd (xN (sHand (T_nw T) j m N).1) (sHand (T_nw T) j m N).2)), T) := by
                          unfold aHands
                          rw [hx, hxm, ← hNN, if_neg (by simp [c_11, c_18, c_26])]
                        rw [e, eA, xN_nI (by omega), eB]
                        have hr2 := hR.trans hRR.symm
                        exact ⟨(congrArg (fun z : Nat × Nat => nI z.1) hr2).trans (if_pos (show nI w1 = nI 0 by rw [c_117])).symm, hC.fr (fun o a b c d => g0 o (by omega) (by omega)), fun o ho => g0 o (by omega) (by omega)⟩
                    · refine q_iload F 4 dX7_hands_101 rfl ?_
                      refine q_iconst F (nI 2) dX7_hands_103 (by decide) ?_
                      refine q_idiv F dX7_hands_104 (by decide) ?_
                      refine q_top (.int (nI (i / 2))) (congrArg Value.int (pk_div (by omega) (by decide) (by decide))) ?_
                      refine q_istore4 F dX7_hands_105 (by decide) rfl ?_
                      refine q_iload F 5 dX7_hands_107 rfl ?_
                      refine q_iconst F (nI 2) dX7_hands_109 (by decide) ?_
                      refine q_idiv F dX7_hands_110 (by decide) ?_
                      refine q_top (.int (nI (b / 2))) (congrArg Value.int (pk_div (by omega) (by decide) (by decide))) ?_
                      refine q_istore5 F dX7_hands_111 (by decide) rfl ?_
                      refine q_goto F 88 dX7_hands_113 (by decide) ?_
                      refine ih (i / 2) (b / 2) (by rw [Nat.pow_succ] at hb; omega) (by omega) (by omega) ?_
                      rw [sRed, if_pos (show 1 < (i, b).2 ∧ (i, b).1 % 2 = 0 from ⟨by show 1 < b; omega, c_98⟩)] at hr
                      exact hr
              exact LR 7 A (2 ^ t) (Nat.lt_of_le_of_lt hB64 (by decide)) (Nat.lt_of_le_of_lt hB64 (by decide)) (by omega) (by rw [red_ok t ht A (by omega)]; exact hRR)
            · omega
          | succ k ih =>
            intro s σ2 g0 hi
            refine q_iload F 6 dX7_hands_41 rfl ?_
            refine q_aload_n F 0 dX7_hands_43 rfl rfl ?_
            refine gX7_25 F dX7_hands_44 sh_0 rfl ?_
            refine iX7_197 F dX7_hands_47 (d_sets (hN.fr (fun o a b => g0 o (by omega) (by omega))) path5 hOk) (by decide) path5.1 rfl rfl (Nat.le_of_ble_eq_true rfl) (fun v_47 σ_47 h_47 => ?_)
            obtain ⟨rfl, rfl⟩ := h_47
            refine q_top (.int (nI N)) (congrArg Value.int (by rw [hNN])) ?_
            refine n_ge F 88 dX7_hands_50 (by decide) (by omega) (by omega) (fun c_50 => ?_) (fun c_50 => ?_)
            · omega
            · refine q_aload_n F 0 dX7_hands_53 rfl rfl ?_
              refine q_iload F 6 dX7_hands_54 rfl ?_
              refine iX7_201 F dX7_hands_56 (c_trial (hN.fr (fun o a b => g0 o (by omega) (by omega))) hOk (by omega)) (by decide) sh_0 rfl rfl (Nat.le_of_ble_eq_true rfl) (fun v_56 σ_56 h_56 => ?_)
              obtain ⟨rfl, h72⟩ := h_56
              refine b_eq F 82 dX7_hands_59 (by decide) (fun c_59 => ?_) (fun c_59 => ?_)
              · rw [c_59] at h72
                simp only [Bool.false_eq_true, if_false] at h72
                subst h72
                have hs : sHand (T_nw T) j m (s + 1) = sHand (T_nw T) j m s := by rw [sHand, if_neg (by simp [c_59])]
                refine q_iinc6 F _ dX7_hands_82 (nI_inc _) (by decide) rfl ?_
                refine q_goto F 41 dX7_hands_85 (by decide) ?_
                have hh := ih (s + 1) σ_56 g0 (by omega)
                rw [hs] at hh
                exact hh
              · rw [c_59] at h72
                simp only [if_true] at h72
                subst h72
                have hs : sHand (T_nw T) j m (s + 1) = ((sHand (T_nw T) j m s).1 + sPop (sS j (sOut s (T_nw T)) m), (sHand (T_nw T) j m s).2 + 1) := by rw [sHand, if_pos c_59]
                refine q_iload F 4 dX7_hands_62 rfl ?_
                refine q_aload_n F 0 dX7_hands_64 rfl rfl ?_
                refine gX7_32 F dX7_hands_65 sh_0 rfl ?_
                refine q_iload_n F 1 dX7_hands_68 rfl rfl ?_
                refine q_iload_n F 2 dX7_hands_69 rfl rfl ?_
                refine iX7_194 F dX7_hands_70 (c_holdersAhead path17 (sOk_Out hOk s) (show j < V_n (sOut s (T_nw T)) from hj) (by omega)) (by decide) path17.1 rfl rfl (Nat.le_of_ble_eq_true rfl) (fun v_70 σ_70 h_70 => ?_)
                obtain ⟨rfl, rfl⟩ := h_70
                obtain ⟨q, hq, eq⟩ := sS_nI (e := j) (v := sOut s (T_nw T)) (show V_n (sOut s (T_nw T)) ≤ 6 from hn6) m
                refine q_top (.int (nI q)) (congrArg Value.int (eq)) ?_
                refine iX7_211 F dX7_hands_73 (c_bitCount hq) (by decide) rfl rfl (Nat.le_of_ble_eq_true rfl) (fun v_73 σ_73 h_73 => ?_)
                obtain ⟨rfl, rfl⟩ := h_73
                refine q_top (.int (sPop (sS j (sOut s (T_nw T)) m))) (congrArg Value.int (by rw [eq])) ?_
                refine q_iadd F dX7_hands_76 ?_
                refine q_istore4 F dX7_hands_77 (by decide) rfl ?_
                refine q_iinc5 F _ dX7_hands_79 (nI_inc _) (by decide) rfl ?_
                refine q_iinc6 F _ dX7_hands_82 (nI_inc _) (by decide) rfl ?_
                refine q_goto F 41 dX7_hands_85 (by decide) ?_
                have hh := ih (s + 1) (vm_P σ_47 17 (sHs m (sOut s (T_nw T)))) (fun o a b => by rw [vm_P_out (by omega)]; exact g0 o a b) (by omega)
                rw [hs] at hh
                exact hh
        exact L N 0 _ (fun _ _ _ => rfl) (by omega)
      · refine q_ldc F dX7_hands_29 wX7_80 ?_
        refine K _ _ _ _ ?_ dX7_hands_31 rfl
        have e : aHands T (nI j) (nI m) w = (sBAD, T) := by
          simp [aHands, c_26]
        rw [e]
        exact ⟨rfl, hC, fun _ _ => rfl⟩
