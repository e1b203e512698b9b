/-! ===== WHAT THE STATE KEEPS ===== -/
def sSurj (n : Nat) (er : Nat → Nat) : Prop := ∀ e, e < n → ∃ i, i < n ∧ er i = e
theorem surj_swap {n p q : Nat} {er : Nat → Nat} (hp : p < n) (hq : q < n) (h : sSurj n er) : sSurj n (vm_u (vm_u er p (er q)) q (er p)) := by
  intro e he
  obtain ⟨i, hi, ei⟩ := h e he
  by_cases e1 : i = p
  · exact ⟨q, hq, by rw [vm_u_s, ← e1, ei]⟩
  · by_cases e2 : i = q
    · exact ⟨p, hp, by rw [vm_u_n (fun z : p = q => e1 (e2.trans z.symm)), vm_u_s, ← e2, ei]⟩
    · exact ⟨i, hi, by rw [vm_u_n e2, vm_u_n e1, ei]⟩
theorem surj_M {n law p q : Nat} {s : (Nat → Bool) × (Nat → Nat)} (hp : p < n) (hq : q < n) (h : sSurj n s.2) : sSurj n (sM law p q s).2 := by
  unfold sM
  split
  · exact h
  · exact surj_swap hp hq h
theorem surj_Bq {n law p : Nat} {kd : Nat → Nat} {sp : Nat → Int32} {s : (Nat → Bool) × (Nat → Nat)} (hp : p < n) (h : sSurj n s.2) : ∀ q, q ≤ n → sSurj n (sBq kd sp law p q s).2
  | 0, _ => h
  | q + 1, hq => by
    have ih := surj_Bq (kd := kd) (sp := sp) (law := law) hp h q (by omega)
    unfold sBq sMq
    split
    · exact surj_M hp (by omega) ih
    · exact ih
theorem surj_B {n law : Nat} {kd : Nat → Nat} {sp : Nat → Int32} {s : (Nat → Bool) × (Nat → Nat)} (h : sSurj n s.2) : ∀ p, p ≤ n → sSurj n (sB kd sp law p s).2
  | 0, _ => h
  | p + 1, hp => by
    unfold sB
    exact surj_Bq (by omega) (surj_B h p (by omega)) p (by omega)
theorem or_small : ∀ m, m < 64 → ∀ e, e < 6 → nI m ||| sBit e = nI (m ||| 2 ^ e) := by decide +kernel
theorem fin_C {n : Nat} {gl sp : Nat → Int32} {er : Nat → Nat} {f : Int32} (hn : n ≤ 6) (hE : sE n er) (h : ∃ m, m < 2 ^ n ∧ f = nI m) : ∀ i, i ≤ n → ∃ m, m < 2 ^ n ∧ sC gl sp er i f = nI m
  | 0, _ => h
  | i + 1, hi => by
    obtain ⟨m, hm, e⟩ := fin_C (gl := gl) (sp := sp) hn hE h i (by omega)
    unfold sC
    split
    · have he := hE i (by omega)
      have h64 := pow6 hn
      refine ⟨m ||| 2 ^ er i, Nat.or_lt_two_pow hm (Nat.pow_lt_pow_right (by omega) he), ?_⟩
      rw [e, or_small m (by omega) _ (by omega)]
    · exact ⟨m, hm, e⟩
theorem sG_H {v : vm_V} (h : sG v) : sG (sH v) :=
  ⟨sOk_H h.1, surj_B (s := ((sA (V_kd v) (V_top v) (V_n v) (V_sp v, V_wy v)).2, V_er v)) h.2.1 _ (Nat.le_refl _), fin_C h.1.1 (sOk_H h.1).2.1 h.2.2.1 _ (Nat.le_refl _), h.2.2.2⟩
theorem sG_Hs {v : vm_V} (h : sG v) : ∀ i, sG (sHs i v)
  | 0 => h
  | i + 1 => sG_H (sG_Hs h i)
theorem sSame_H (v : vm_V) : sSame (sH v) v := ⟨rfl, rfl, rfl, rfl, rfl⟩
theorem sSame_Hs (v : vm_V) : ∀ i, sSame (sHs i v) v
  | 0 => ⟨rfl, rfl, rfl, rfl, rfl⟩
  | i + 1 => sSame_Hs v i
theorem sHs_gn (v : vm_V) : ∀ i, V_gn (sHs i v) = V_gn v + i
  | 0 => rfl
  | i + 1 => by
    show V_gn (sHs i v) + 1 = _
    rw [sHs_gn v i]
    omega
theorem s_found {T : vm_T} (h : SInv T) (k : Nat) : SInv (sFound T k).2 := h
theorem s_person {T : vm_T} (h : SInv T) (p w : Int32) : SInv (aPerson T p w).2 := by unfold aPerson; split <;> exact h
theorem s_errand {T : vm_T} (h : SInv T) (e w : Int32) : SInv (aErrand T e w).2 := by unfold aErrand; (repeat' split) <;> exact h
theorem s_ahead {T : vm_T} (h : SInv T) (p n w : Int32) : SInv (aAhead T p n w).2 := by unfold aAhead; (repeat' split) <;> exact h
theorem s_done {T : vm_T} (h : SInv T) (e w : Int32) : SInv (aDone T e w).2 := by unfold aDone; (repeat' split) <;> exact h
theorem s_kind {T : vm_T} (h : SInv T) (p : Int32) : SInv (aKind T p).2 := by unfold aKind; split <;> exact h
theorem s_as {T : vm_T} (h : SInv T) (p k : Int32) : SInv (aAs T p k).2 := by unfold aAs; (repeat' split) <;> exact h
theorem s_trace {T : vm_T} (h : SInv T) (i : Int32) : SInv (aTrace T i).2 := by unfold aTrace; split <;> exact h
theorem s_clean {T : vm_T} (h : SInv T) (e m n w : Int32) : SInv (aClean T e m n w).2 := by unfold aClean; (repeat' split) <;> exact h
theorem s_began {T : vm_T} (h : SInv T) (r n w : Int32) : SInv (aBegan T r n w).2 := by unfold aBegan; (repeat' split) <;> exact h
theorem s_row {T : vm_T} (h : SInv T) (r l n : Int32) : SInv (aRow T r l n).2 := by
  unfold aRow
  split
  · exact h
  · next h1 =>
    split
    · exact h
    · next h2 =>
      simp only [Bool.or_eq_true, Bool.not_eq_true', decide_eq_true_eq, not_or, Bool.not_eq_false] at h1
      obtain ⟨⟨h3, h4⟩, h5⟩ := h1
      obtain ⟨j, hj, rfl⟩ := wi_of h3
      obtain ⟨q, hq, rfl⟩ := wi_of h4
      obtain ⟨m, hm, rfl⟩ := i_of (show 0 ≤ n.toInt by omega)
      rw [nI_toInt hm] at h5
      rw [xN_nI (show j < 2 ^ 31 by omega), xN_nI (show q < 2 ^ 31 by omega), xN_nI hm]
      obtain ⟨g1, g2, g3, g4, g5, g6, g7, g8⟩ := h
      refine ⟨g1, g2, g3, g4, g5, g6, fun r hr => ?_, g8⟩
      show vm_u (T_rl T) j (q + 1) r < 4 ∧ (vm_u (T_rl T) j (q + 1) r ≠ 0 → vm_u (T_rn T) j m r ≤ 40)
      by_cases e : r = j
      · subst e
        rw [vm_u_s, vm_u_s]
        exact ⟨by omega, fun _ => by omega⟩
      · rw [vm_u_n e, vm_u_n e]
        exact g7 r hr
theorem s_set {T : vm_T} (h : SInv T) (r i v : Int32) : SInv (aSet T r i v).2 := by unfold aSet; (repeat' split) <;> exact h
theorem s_copy {T : vm_T} (h : SInv T) (a i b j n : Int32) : SInv (aCopy T a i b j n).2 := by unfold aCopy; (repeat' split) <;> exact h
theorem s_drop {T : vm_T} (h : SInv T) (r : Int32) : SInv (aDrop T r).2 := by
  unfold aDrop
  split
  · exact h
  · split
    · exact h
    · obtain ⟨g1, g2, g3, g4, g5, g6, g7, g8⟩ := h
      refine ⟨g1, g2, g3, g4, g5, g6, fun q hq => ?_, g8⟩
      show vm_u (T_rl T) (xN r) 0 q < 4 ∧ (vm_u (T_rl T) (xN r) 0 q ≠ 0 → T_rn T q ≤ 40)
      by_cases e : q = xN r
      · rw [e, vm_u_s]
        exact ⟨by omega, fun z => absurd rfl z⟩
      · rw [vm_u_n e]
        exact g7 q hq
theorem s_feed {T : vm_T} (h : SInv T) (w : Int64) (n : Int32) : SInv (aFeed T w n).2 := by
  unfold aFeed
  split
  · exact h
  · split
    · exact h
    · next h2 =>
      obtain ⟨g1, g2, g3, g4, g5, g6, g7, g8, g9, g10⟩ := h
      refine ⟨g1, g2, g3, g4, g5, g6, g7, Nat.le_of_not_lt h2, fun k hk => ?_, g10⟩
      show (if T_tl T ≤ k ∧ k < T_tl T + xN n then sByte w (xN n - 1 - (k - T_tl T)) else T_tb T k) < 256
      split
      · exact sByte_lt _ _
      · next hq => exact g9 k (by have hk : k < T_tl T + xN n := hk; omega)
