def PInv (now : vm_V) (pl : Nat) (pv : Nat → vm_V) : Prop := pl ≤ 24 ∧ ∀ i, i < pl → sG (pv i) ∧ sSame (pv i) now ∧ V_gn (pv i) + (pl - i) = V_gn now
theorem PInv_push {v : vm_V} {t : Nat × (Nat → vm_V)} (hv : sG v) (h : PInv v t.1 t.2) : PInv (sH v) (sPush v t).1 (sPush v t).2 := by
  obtain ⟨h1, h2⟩ := h
  have hgn : V_gn (sH v) = V_gn v + 1 := rfl
  unfold sPush
  split
  · next h3 =>
    refine ⟨h3, fun i hi => ?_⟩
    show sG (vm_u t.2 t.1 v i) ∧ sSame (vm_u t.2 t.1 v i) (sH v) ∧ V_gn (vm_u t.2 t.1 v i) + (t.1 + 1 - i) = V_gn (sH v)
    have hi : i < t.1 + 1 := hi
    by_cases e : i = t.1
    · rw [e, vm_u_s]
      exact ⟨hv, ⟨rfl, rfl, rfl, rfl, rfl⟩, by omega⟩
    · rw [vm_u_n e]
      obtain ⟨g1, g2, g3⟩ := h2 i (by omega)
      exact ⟨g1, g2, by omega⟩
  · next h3 =>
    refine ⟨Nat.le_refl 24, fun i hi => ?_⟩
    show sG (if i < 23 then t.2 (i + 1) else v) ∧ sSame (if i < 23 then t.2 (i + 1) else v) (sH v) ∧ V_gn (if i < 23 then t.2 (i + 1) else v) + (24 - i) = V_gn (sH v)
    have hi : i < 24 := hi
    by_cases e : i < 23
    · rw [if_pos e]
      obtain ⟨g1, g2, g3⟩ := h2 (i + 1) (by omega)
      exact ⟨g1, g2, by omega⟩
    · rw [if_neg e]
      exact ⟨hv, ⟨rfl, rfl, rfl, rfl, rfl⟩, by omega⟩
theorem PInv_pushs {v : vm_V} {t : Nat × (Nat → vm_V)} (hv : sG v) (h : PInv v t.1 t.2) : ∀ i, PInv (sHs i v) (sPushs v t i).1 (sPushs v t i).2
  | 0 => h
  | i + 1 => PInv_push (sG_Hs hv i) (PInv_pushs hv h i)
theorem s_halves {T : vm_T} (h : SInv T) (n : Int32) : SInv (aHalves T n).2 := by
  unfold aHalves
  split
  · exact h
  · next hp =>
    split
    · exact h
    · split
      · exact h
      · next h9 =>
        obtain ⟨g1, g2, g3, g4, g5, g6, g7⟩ := h
        have P := PInv_pushs (t := (T_pl T, T_pv T)) g1 ⟨g4, g5⟩ (xN n)
        refine ⟨sG_Hs g1 _, fun z => absurd z hp, ?_, P.1, P.2, g6, g7⟩
        show V_gn (sHs (xN n) (T_nw T)) ≤ 9999
        rw [sHs_gn]
        omega
theorem s_undo {T : vm_T} (h : SInv T) : SInv (aUndo T).2 := by
  unfold aUndo
  split
  · exact h
  · next hp =>
    obtain ⟨g1, g2, g3, g4, g5, g6, g7⟩ := h
    obtain ⟨a1, a2, a3⟩ := g5 (T_pl T - 1) (by omega)
    refine ⟨a1, fun z => absurd (g2 z).2 hp, ?_, ?_, fun i hi => ?_, g6, g7⟩
    · show V_gn (T_pv T (T_pl T - 1)) ≤ 9999
      omega
    · show T_pl T - 1 ≤ 24
      omega
    · have hi : i < T_pl T - 1 := hi
      obtain ⟨b1, b2, b3⟩ := g5 i (by omega)
      refine ⟨b1, ⟨b2.1.trans a2.1.symm, b2.2.1.trans a2.2.1.symm, b2.2.2.1.trans a2.2.2.1.symm, b2.2.2.2.1.trans a2.2.2.2.1.symm, b2.2.2.2.2.trans a2.2.2.2.2.symm⟩, ?_⟩
      show V_gn (T_pv T i) + (T_pl T - 1 - i) = V_gn (T_pv T (T_pl T - 1))
      omega
theorem s_image {T : vm_T} (h : SInv T) (k : Int32) : SInv (aImage T k).2 := by
  unfold aImage
  split
  · exact h
  · split
    · exact h
    · next hp =>
      obtain ⟨g1, g2, g3, g4, g5, g6, g7⟩ := h
      have hp : T_hp T = true := by simpa using hp
      refine ⟨g1, g2, g3, g4, g5, fun q hq hi => ?_, g7⟩
      show sG (vm_u (T_iv T) (xN k) (T_nw T) q) ∧ V_gn (vm_u (T_iv T) (xN k) (T_nw T) q) ≤ 9999 ∧ T_hp T = true
      have hi : vm_u (T_im T) (xN k) true q = true := hi
      by_cases e : q = xN k
      · rw [e, vm_u_s]
        exact ⟨g1, g3, hp⟩
      · rw [vm_u_n e] at hi ⊢
        exact g6 q hq hi
theorem s_restore {T : vm_T} (h : SInv T) (k : Int32) : SInv (aRestore T k).2 := by
  unfold aRestore
  split
  · exact h
  · next hk =>
    split
    · exact h
    · next hm =>
      obtain ⟨g1, g2, g3, g4, g5, g6, g7⟩ := h
      obtain ⟨j, hj, rfl⟩ := wi_of (show wi k 2 = true by simpa using hk)
      rw [xN_nI (show j < 2 ^ 31 by omega)] at hm ⊢
      obtain ⟨a1, a2, a3⟩ := g6 j hj (by simpa using hm)
      exact ⟨a1, fun z => absurd (a3.symm.trans z) (by decide), a2, Nat.zero_le _, fun i hi => absurd hi (Nat.not_lt_zero _), g6, g7⟩
theorem sLvs_le : ∀ (l : List Nat) (t : Nat × (Nat → Int32)), t.1 ≤ 16 → (sLvs l t).1 ≤ 16
  | [], _, h => h
  | x :: l, t, h => by
    show (sLvs l (sLv (nI x) t)).1 ≤ 16
    refine sLvs_le l _ ?_
    unfold sLv
    split
    · show t.1 + 1 ≤ 16; omega
    · exact h
theorem s_ask {T : vm_T} (h : SInv T) (p w : Int32) : SInv (aAsk T p w).2 := by
  unfold aAsk
  obtain ⟨g1, g2, g3, g4, g5, g6, g7, g8, g9, g10⟩ := h
  split
  · exact ⟨g1, g2, g3, g4, g5, g6, g7, g8, g9, g10⟩
  · split
    · exact ⟨g1, g2, g3, g4, g5, g6, g7, g8, g9, sLvs_le _ _ (Nat.zero_le _)⟩
    · exact ⟨g1, g2, g3, g4, g5, g6, g7, g8, g9, sLvs_le _ _ (Nat.zero_le _)⟩
theorem s_path {T T' : vm_T} {r : Int32} (h : SInv T) (hp : pathR T T' r) : SInv T' := by
  obtain ⟨g1, g2, g3, g4, g5, g6, g7, g8, g9, g10⟩ := h
  rcases hp with ⟨-, w, hw, hn, hk, rfl, -⟩ | ⟨-, rfl, -⟩
  · obtain ⟨w1, w2, w3, w4, w5, w6, w7, w8, w9⟩ := hw
    have hE : sE (V_n w) (V_er w) := fun p hp => by
      rw [(w9 p (by omega)).2.2.2.2.1]
      exact hp
    refine ⟨⟨⟨by show V_n w ≤ 6; omega, hE, hk, by show V_law w < 3; omega⟩, fun e he => ⟨e, he, (w9 e (by have he : e < V_n w := he; omega)).2.2.2.2.1⟩, ?_, fun p hp => ?_⟩, fun z => Bool.noConfusion (show true = false from z), ?_, Nat.zero_le _, fun i hi => absurd hi (Nat.not_lt_zero _), fun k hk hi => ⟨(g6 k hk hi).1, (g6 k hk hi).2.1, rfl⟩, g7, Nat.zero_le _, fun k hk => absurd hk (Nat.not_lt_zero _), g10⟩
    · exact fin_C (by omega) hE ⟨0, Nat.two_pow_pos _, by rw [w5, nI_0]⟩ _ (Nat.le_refl _)
    · show 1 ≤ V_kd w p
      have hp : p < V_n w := hp
      obtain ⟨a1, -, -, -, -, a6, -⟩ := w9 p (by omega)
      rw [a1]
      omega
    · show V_gn w ≤ 9999
      omega
  · exact ⟨g1, g2, g3, g4, g5, g6, g7, Nat.zero_le _, fun k hk => absurd hk (Nat.not_lt_zero _), g10⟩
theorem s_soon {T : vm_T} (h : SInv T) (w : Int32) : SInv (aSoon T w).2 := by unfold aSoon; (repeat' split) <;> exact h
theorem s_secret {T : vm_T} (h : SInv T) (e n : Int32) : SInv (aSecret T e n).2 := by unfold aSecret; (repeat' split) <;> exact h
theorem s_hands {T : vm_T} (h : SInv T) (e n w : Int32) : SInv (aHands T e n w).2 := by unfold aHands; (repeat' split) <;> exact h
