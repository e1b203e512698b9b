/-! ===== THE FIRST STATE ===== -/
def vm_V0 : vm_V := (fun _ => 0, fun _ => 0, fun _ => 0, fun _ => false, fun _ => 0, 0, 0, 0, 0, 0)
def vm_T0 : vm_T := (fun _ => 0, fun _ => 0, fun _ _ => 0, 0, fun _ => 0, false, vm_V0, 0, fun _ => vm_V0, fun _ => false, fun _ => vm_V0, 0, fun _ => 0, 0, 0)
theorem fi_P {b : Nat} (h : ∀ o, b ≤ o → o ≤ b + 5 → wo_S o = fun _ => 0) : isP wo_S b vm_V0 := by
  unfold isP
  funext o
  by_cases ho : b ≤ o ∧ o ≤ b + 5
  · rw [h o ho.1 ho.2]
    unfold vm_P
    rw [h b (Nat.le_refl _) (by omega)]
    funext k
    have n0 : nI 0 = 0 := by decide
    have b0 : bI false = 0 := by decide
    simp only [vm_V0, n0, b0, ite_self]
    split
    · rfl
    split
    · rfl
    split
    · rfl
    split
    · rfl
    split
    · rfl
    split
    · rfl
    exact absurd ho (by omega)
  · rw [vm_P_out (by omega)]
theorem fi_C : CInv wo_S vm_T0 := by
  have n0 : nI 0 = 0 := by decide
  have b0 : bI false = 0 := by decide
  have z : ∀ k, k ≠ 173 → k ≠ 206 → ∀ j, wo_S k j = 0 := fun k h1 h2 j => congrFun (wo_S0 h1 h2) j
  refine ⟨fun r hr => ⟨Nat.zero_lt_succ 3, ?_, fun h => absurd rfl h⟩, ⟨?_, by decide, fun k hk => absurd hk (Nat.not_lt_zero k)⟩, ⟨?_, fi_P (fun o h1 h2 => wo_S0 (by omega) (by omega))⟩, ⟨0, by decide, ?_, ?_, by decide, fun i hi => absurd hi (Nat.not_lt_zero i)⟩, fun k hk => ⟨?_, fun h => absurd h Bool.false_ne_true⟩, ⟨?_, by decide, fun i hi => absurd hi (Nat.not_lt_zero i)⟩, ?_, ?_, ⟨vm_V0, fi_P (fun o h1 h2 => wo_S0 (by omega) (by omega)), fun p => Nat.zero_lt_succ 5⟩⟩
  · exact z _ (by omega) (by omega) _
  · exact z _ (by omega) (by omega) _
  · exact z _ (by omega) (by omega) _
  · exact z _ (by omega) (by omega) _
  · exact z _ (by omega) (by omega) _
  · exact z _ (by omega) (by omega) _
  · exact z _ (by omega) (by omega) _
  · exact z _ (by omega) (by omega) _
  · exact z _ (by omega) (by omega) _
theorem fi_L : ∀ r, r < 8 → un_lanes r = -1000000 := by
  intro r hr
  rcases (show r = 0 ∨ r = 1 ∨ r = 2 ∨ r = 3 ∨ r = 4 ∨ r = 5 ∨ r = 6 ∨ r = 7 by omega) with rfl | rfl | rfl | rfl | rfl | rfl | rfl | rfl <;> rfl
theorem fi_M : MInv wo_S vm_T0 := by
  have z : ∀ k, k ≠ 173 → k ≠ 206 → ∀ j, wo_S k j = 0 := fun k h1 h2 j => congrFun (wo_S0 h1 h2) j
  refine ⟨fun r hr => ⟨?_, fun h => absurd rfl h⟩, ⟨?_, fun k hk => absurd hk (Nat.not_lt_zero k)⟩, ⟨?_, ⟨?_, ?_, ?_, fun p hp => absurd hp (Nat.not_lt_zero p)⟩, ?_, ?_, ?_, fun p hp => absurd hp (Nat.not_lt_zero p), 0, by decide, ?_⟩, ⟨?_, fun i hi => absurd hi (Nat.not_lt_zero i)⟩, fun k hk => ⟨?_, fun h => absurd h Bool.false_ne_true⟩, ⟨?_, fun i hi => absurd hi (Nat.not_lt_zero i)⟩, ?_, ?_⟩
  · exact (fi_L r hr).trans (if_pos rfl).symm
  all_goals exact z _ (by omega) (by omega) _
theorem fi_S : SInv vm_T0 := by
  refine ⟨⟨?_, fun e he => absurd he (Nat.not_lt_zero e), ⟨0, by decide, by decide⟩, fun p hp => absurd hp (Nat.not_lt_zero p)⟩, fun _ => ⟨rfl, rfl⟩, by decide, by decide, fun i hi => absurd hi (Nat.not_lt_zero i), fun k hk h => absurd h Bool.false_ne_true, fun r hr => ⟨Nat.zero_lt_succ 3, fun h => absurd rfl h⟩, by decide, fun k hk => absurd hk (Nat.not_lt_zero k), by decide⟩
  refine ⟨by decide, ?_, fun p => Nat.zero_lt_succ 5, by decide⟩
  exact fun p hp => absurd hp (Nat.not_lt_zero p)
