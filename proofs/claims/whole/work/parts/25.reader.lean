abbrev rd_V : Type := Nat × Nat × Nat × Nat × Nat
/-- the memory in which the reader has at, first, type, value, fault -/
def vm_Rd (σ : vm_M) (r : rd_V) : vm_M := fun o => if o = 2 then (fun k => if k = 1 then nI r.1 else if k = 2 then nI r.2.1 else if k = 3 then nI r.2.2.1 else if k = 4 then nI r.2.2.2.1 else if k = 5 then nI r.2.2.2.2 else σ 2 k) else σ o
theorem vm_Rd_n {σ : vm_M} {r : rd_V} {o : Nat} (h : o ≠ 2) : vm_Rd σ r o = σ o := by simp [vm_Rd, h]
theorem vm_RP {σ : vm_M} {r : rd_V} {v : vm_V} : vm_Rd (vm_P σ 11 v) r = vm_P (vm_Rd σ r) 11 v := by
  funext o k
  by_cases h : o = 2
  · subst h
    rw [vm_P_out (by omega)]
    simp only [vm_Rd, if_true]
    rw [vm_P_out (by omega)]
  · rw [vm_Rd_n h]
    by_cases h2 : 11 ≤ o ∧ o ≤ 16
    · exact (congrFun (vm_P_congr (b := 11) (σ := σ) (σ' := vm_Rd σ r) (o := o) (v := v) (fun q a b => vm_Rd_n (by omega)) h2) k).symm
    · rw [vm_P_out (by omega), vm_P_out (by omega), vm_Rd_n h]
def int_nat (x : Int32) : Nat := x.toBitVec.toNat
theorem nI_int_nat (x : Int32) : nI (int_nat x) = x := by
  apply Int32.toBitVec_inj.1
  show BitVec.ofNat 32 x.toBitVec.toNat = x.toBitVec
  simp
/-- any memory has some reader -/
theorem vm_Rd_any (σ : vm_M) : vm_Rd σ (int_nat (σ 2 1), int_nat (σ 2 2), int_nat (σ 2 3), int_nat (σ 2 4), int_nat (σ 2 5)) = σ := by
  funext o k
  by_cases h : o = 2
  · subst h
    simp only [vm_Rd, if_true, nI_int_nat]
    split
    · next e => rw [e]
    · split
      · next e => rw [e]
      · split
        · next e => rw [e]
        · split
          · next e => rw [e]
          · split
            · next e => rw [e]
            · rfl
  · rw [vm_Rd_n h]
theorem rS_a {σ : vm_M} {a f t v x : Nat} (y : Nat) : vm_upd (vm_Rd σ (a, f, t, v, x)) 2 1 (nI y) = vm_Rd σ (y, f, t, v, x) := by
  funext o k
  by_cases h : o = 2
  · subst h
    by_cases hk : k = 1 <;> simp [vm_Rd, vm_upd, upd, hk]
  · simp [vm_Rd, vm_upd, h]
theorem rG_a {σ : vm_M} {a f t v x : Nat} : vm_Rd σ (a, f, t, v, x) 2 1 = nI a := by simp [vm_Rd]
theorem rS_f {σ : vm_M} {a f t v x : Nat} (y : Nat) : vm_upd (vm_Rd σ (a, f, t, v, x)) 2 2 (nI y) = vm_Rd σ (a, y, t, v, x) := by
  funext o k
  by_cases h : o = 2
  · subst h
    by_cases hk : k = 2 <;> simp [vm_Rd, vm_upd, upd, hk]
  · simp [vm_Rd, vm_upd, h]
theorem rG_f {σ : vm_M} {a f t v x : Nat} : vm_Rd σ (a, f, t, v, x) 2 2 = nI f := by simp [vm_Rd]
theorem rS_t {σ : vm_M} {a f t v x : Nat} (y : Nat) : vm_upd (vm_Rd σ (a, f, t, v, x)) 2 3 (nI y) = vm_Rd σ (a, f, y, v, x) := by
  funext o k
  by_cases h : o = 2
  · subst h
    by_cases hk : k = 3 <;> simp [vm_Rd, vm_upd, upd, hk]
  · simp [vm_Rd, vm_upd, h]
theorem rG_t {σ : vm_M} {a f t v x : Nat} : vm_Rd σ (a, f, t, v, x) 2 3 = nI t := by simp [vm_Rd]
theorem rS_v {σ : vm_M} {a f t v x : Nat} (y : Nat) : vm_upd (vm_Rd σ (a, f, t, v, x)) 2 4 (nI y) = vm_Rd σ (a, f, t, y, x) := by
  funext o k
  by_cases h : o = 2
  · subst h
    by_cases hk : k = 4 <;> simp [vm_Rd, vm_upd, upd, hk]
  · simp [vm_Rd, vm_upd, h]
theorem rG_v {σ : vm_M} {a f t v x : Nat} : vm_Rd σ (a, f, t, v, x) 2 4 = nI v := by simp [vm_Rd]
theorem rS_x {σ : vm_M} {a f t v x : Nat} (y : Nat) : vm_upd (vm_Rd σ (a, f, t, v, x)) 2 5 (nI y) = vm_Rd σ (a, f, t, v, y) := by
  funext o k
  by_cases h : o = 2
  · subst h
    by_cases hk : k = 5 <;> simp [vm_Rd, vm_upd, upd, hk]
  · simp [vm_Rd, vm_upd, h]
theorem rG_x {σ : vm_M} {a f t v x : Nat} : vm_Rd σ (a, f, t, v, x) 2 5 = nI x := by simp [vm_Rd]
theorem grX3_18 {G : vm_G} {C : vm_C} {cc : ByteArray} {nL d pc : Nat} {ls : List (Option Value)} {st : List Value} {σ : vm_M} {a f t v x : Nat} (F : vm_F G C cc RX3 nL d) (dd : decode cc pc = .ok (.getfield 18, 3)) (k : vm_Ex G C nL (pc + 3) ls (.int (nI a) :: st) (vm_Rd σ (a, f, t, v, x))) : vm_Ex G C nL pc ls (.ref 2 :: st) (vm_Rd σ (a, f, t, v, x)) := gX3_18 F dd sh_2 rfl (by rw [rG_a]; exact k)
theorem prX3_18 {G : vm_G} {C : vm_C} {cc : ByteArray} {nL d pc : Nat} {ls : List (Option Value)} {st : List Value} {σ : vm_M} {a f t v x : Nat} {y : Nat} (F : vm_F G C cc RX3 nL d) (dd : decode cc pc = .ok (.putfield 18, 3)) (k : vm_Ex G C nL (pc + 3) ls st (vm_Rd σ (y, f, t, v, x))) : vm_Ex G C nL pc ls (.int (nI y) :: .ref 2 :: st) (vm_Rd σ (a, f, t, v, x)) := pX3_18 F dd sh_2 rfl ⟨rfl, rfl⟩ (by rw [rS_a]; exact k)
theorem grX3_22 {G : vm_G} {C : vm_C} {cc : ByteArray} {nL d pc : Nat} {ls : List (Option Value)} {st : List Value} {σ : vm_M} {a f t v x : Nat} (F : vm_F G C cc RX3 nL d) (dd : decode cc pc = .ok (.getfield 22, 3)) (k : vm_Ex G C nL (pc + 3) ls (.int (nI f) :: st) (vm_Rd σ (a, f, t, v, x))) : vm_Ex G C nL pc ls (.ref 2 :: st) (vm_Rd σ (a, f, t, v, x)) := gX3_22 F dd sh_2 rfl (by rw [rG_f]; exact k)
theorem prX3_22 {G : vm_G} {C : vm_C} {cc : ByteArray} {nL d pc : Nat} {ls : List (Option Value)} {st : List Value} {σ : vm_M} {a f t v x : Nat} {y : Nat} (F : vm_F G C cc RX3 nL d) (dd : decode cc pc = .ok (.putfield 22, 3)) (k : vm_Ex G C nL (pc + 3) ls st (vm_Rd σ (a, y, t, v, x))) : vm_Ex G C nL pc ls (.int (nI y) :: .ref 2 :: st) (vm_Rd σ (a, f, t, v, x)) := pX3_22 F dd sh_2 rfl ⟨rfl, rfl⟩ (by rw [rS_f]; exact k)
theorem grX7_139 {G : vm_G} {C : vm_C} {cc : ByteArray} {nL d pc : Nat} {ls : List (Option Value)} {st : List Value} {σ : vm_M} {a f t v x : Nat} (F : vm_F G C cc RX7 nL d) (dd : decode cc pc = .ok (.getfield 139, 3)) (k : vm_Ex G C nL (pc + 3) ls (.int (nI f) :: st) (vm_Rd σ (a, f, t, v, x))) : vm_Ex G C nL pc ls (.ref 2 :: st) (vm_Rd σ (a, f, t, v, x)) := gX7_139 F dd sh_2 rfl (by rw [rG_f]; exact k)
theorem prX7_139 {G : vm_G} {C : vm_C} {cc : ByteArray} {nL d pc : Nat} {ls : List (Option Value)} {st : List Value} {σ : vm_M} {a f t v x : Nat} {y : Nat} (F : vm_F G C cc RX7 nL d) (dd : decode cc pc = .ok (.putfield 139, 3)) (k : vm_Ex G C nL (pc + 3) ls st (vm_Rd σ (a, y, t, v, x))) : vm_Ex G C nL pc ls (.int (nI y) :: .ref 2 :: st) (vm_Rd σ (a, f, t, v, x)) := pX7_139 F dd sh_2 rfl ⟨rfl, rfl⟩ (by rw [rS_f]; exact k)
theorem grX3_25 {G : vm_G} {C : vm_C} {cc : ByteArray} {nL d pc : Nat} {ls : List (Option Value)} {st : List Value} {σ : vm_M} {a f t v x : Nat} (F : vm_F G C cc RX3 nL d) (dd : decode cc pc = .ok (.getfield 25, 3)) (k : vm_Ex G C nL (pc + 3) ls (.int (nI t) :: st) (vm_Rd σ (a, f, t, v, x))) : vm_Ex G C nL pc ls (.ref 2 :: st) (vm_Rd σ (a, f, t, v, x)) := gX3_25 F dd sh_2 rfl (by rw [rG_t]; exact k)
theorem prX3_25 {G : vm_G} {C : vm_C} {cc : ByteArray} {nL d pc : Nat} {ls : List (Option Value)} {st : List Value} {σ : vm_M} {a f t v x : Nat} {y : Nat} (F : vm_F G C cc RX3 nL d) (dd : decode cc pc = .ok (.putfield 25, 3)) (k : vm_Ex G C nL (pc + 3) ls st (vm_Rd σ (a, f, y, v, x))) : vm_Ex G C nL pc ls (.int (nI y) :: .ref 2 :: st) (vm_Rd σ (a, f, t, v, x)) := pX3_25 F dd sh_2 rfl ⟨rfl, rfl⟩ (by rw [rS_t]; exact k)
theorem grX3_28 {G : vm_G} {C : vm_C} {cc : ByteArray} {nL d pc : Nat} {ls : List (Option Value)} {st : List Value} {σ : vm_M} {a f t v x : Nat} (F : vm_F G C cc RX3 nL d) (dd : decode cc pc = .ok (.getfield 28, 3)) (k : vm_Ex G C nL (pc + 3) ls (.int (nI v) :: st) (vm_Rd σ (a, f, t, v, x))) : vm_Ex G C nL pc ls (.ref 2 :: st) (vm_Rd σ (a, f, t, v, x)) := gX3_28 F dd sh_2 rfl (by rw [rG_v]; exact k)
theorem prX3_28 {G : vm_G} {C : vm_C} {cc : ByteArray} {nL d pc : Nat} {ls : List (Option Value)} {st : List Value} {σ : vm_M} {a f t v x : Nat} {y : Nat} (F : vm_F G C cc RX3 nL d) (dd : decode cc pc = .ok (.putfield 28, 3)) (k : vm_Ex G C nL (pc + 3) ls st (vm_Rd σ (a, f, t, y, x))) : vm_Ex G C nL pc ls (.int (nI y) :: .ref 2 :: st) (vm_Rd σ (a, f, t, v, x)) := pX3_28 F dd sh_2 rfl ⟨rfl, rfl⟩ (by rw [rS_v]; exact k)
theorem grX3_31 {G : vm_G} {C : vm_C} {cc : ByteArray} {nL d pc : Nat} {ls : List (Option Value)} {st : List Value} {σ : vm_M} {a f t v x : Nat} (F : vm_F G C cc RX3 nL d) (dd : decode cc pc = .ok (.getfield 31, 3)) (k : vm_Ex G C nL (pc + 3) ls (.int (nI x) :: st) (vm_Rd σ (a, f, t, v, x))) : vm_Ex G C nL pc ls (.ref 2 :: st) (vm_Rd σ (a, f, t, v, x)) := gX3_31 F dd sh_2 rfl (by rw [rG_x]; exact k)
theorem prX3_31 {G : vm_G} {C : vm_C} {cc : ByteArray} {nL d pc : Nat} {ls : List (Option Value)} {st : List Value} {σ : vm_M} {a f t v x : Nat} {y : Nat} (F : vm_F G C cc RX3 nL d) (dd : decode cc pc = .ok (.putfield 31, 3)) (k : vm_Ex G C nL (pc + 3) ls st (vm_Rd σ (a, f, t, v, y))) : vm_Ex G C nL pc ls (.int (nI y) :: .ref 2 :: st) (vm_Rd σ (a, f, t, v, x)) := pX3_31 F dd sh_2 rfl ⟨rfl, rfl⟩ (by rw [rS_x]; exact k)
theorem grX7_135 {G : vm_G} {C : vm_C} {cc : ByteArray} {nL d pc : Nat} {ls : List (Option Value)} {st : List Value} {σ : vm_M} {a f t v x : Nat} (F : vm_F G C cc RX7 nL d) (dd : decode cc pc = .ok (.getfield 135, 3)) (k : vm_Ex G C nL (pc + 3) ls (.int (nI x) :: st) (vm_Rd σ (a, f, t, v, x))) : vm_Ex G C nL pc ls (.ref 2 :: st) (vm_Rd σ (a, f, t, v, x)) := gX7_135 F dd sh_2 rfl (by rw [rG_x]; exact k)
theorem prX7_135 {G : vm_G} {C : vm_C} {cc : ByteArray} {nL d pc : Nat} {ls : List (Option Value)} {st : List Value} {σ : vm_M} {a f t v x : Nat} {y : Nat} (F : vm_F G C cc RX7 nL d) (dd : decode cc pc = .ok (.putfield 135, 3)) (k : vm_Ex G C nL (pc + 3) ls st (vm_Rd σ (a, f, t, v, y))) : vm_Ex G C nL pc ls (.int (nI y) :: .ref 2 :: st) (vm_Rd σ (a, f, t, v, x)) := pX7_135 F dd sh_2 rfl ⟨rfl, rfl⟩ (by rw [rS_x]; exact k)
def isBl (c : Nat) : Bool := c == 32 || c == 10
def isLe (c : Nat) : Bool := decide (97 ≤ c) && decide (c ≤ 122)
def isFi (c : Nat) : Bool := decide (48 ≤ c) && decide (c ≤ 57)
/-- behind blanks -/
def tSk (tl : Nat) (tb : Nat → Nat) (a : Nat) : Nat := a + sF (fun k => !(isBl (tb (a + k)))) (tl - a)
def tRun (g : Nat → Bool) (tl : Nat) (tb : Nat → Nat) (p : Nat) : Nat := p + sF (fun k => !(g (tb (p + k)))) (tl - p)
def tEnd (tl : Nat) (tb : Nat → Nat) (p : Nat) : Nat := if p = tl then tl else if isLe (tb p) = true then tRun isLe tl tb p else if isFi (tb p) = true then tRun isFi tl tb p else p + 1
def tTy (tl : Nat) (tb : Nat → Nat) (p : Nat) : Nat := if p = tl then 0 else if isLe (tb p) = true then 1 else if isFi (tb p) = true then (if tRun isFi tl tb p - p ≤ 3 then 2 else 4) else if tb p = 59 then 3 else 4
def tVal (tb : Nat → Nat) (p : Nat) : Nat → Nat
  | 0 => 0
  | k + 1 => 10 * tVal tb p k + (tb (p + k) - 48)
theorem tRun_le {g : Nat → Bool} {tl p : Nat} {tb : Nat → Nat} (h : p ≤ tl) : p ≤ tRun g tl tb p ∧ tRun g tl tb p ≤ tl := by
  have := sF_le (fun k => !(g (tb (p + k)))) (tl - p)
  unfold tRun
  omega
theorem tSk_le {tl a : Nat} {tb : Nat → Nat} (h : a ≤ tl) : a ≤ tSk tl tb a ∧ tSk tl tb a ≤ tl := by
  have := sF_le (fun k => !(isBl (tb (a + k)))) (tl - a)
  unfold tSk
  omega
theorem tEnd_le {tl p : Nat} {tb : Nat → Nat} (h : p ≤ tl) : p ≤ tEnd tl tb p ∧ tEnd tl tb p ≤ tl := by
  unfold tEnd
  split
  · omega
  · split
    · exact tRun_le h
    · split
      · exact tRun_le h
      · omega
theorem run_at {g : Nat → Bool} {tl p i : Nat} {tb : Nat → Nat} (h : ∀ k, k < i → g (tb (p + k)) = true) (h1 : p + i < tl) (h2 : g (tb (p + i)) = false) : p + sF (fun k => !(g (tb (p + k)))) (tl - p) = p + i := by
  rw [sF_at (i := i) (fun k hk => by simp [h k hk]) (by simp [h2]) (by omega)]
theorem run_all {g : Nat → Bool} {tl p i : Nat} {tb : Nat → Nat} (h : ∀ k, k < i → g (tb (p + k)) = true) (h1 : p + i = tl) : p + sF (fun k => !(g (tb (p + k)))) (tl - p) = p + i := by
  rw [sF_none (fun k hk => by simp [h k (by omega)])]
  omega
set_option maxHeartbeats 4000000 in
set_option maxRecDepth 100000 in
theorem c_isBlank {G : vm_G} {σ : vm_M} {c : Nat} (hc : c < 256) : vm_RI G 0 mX3_isBlank [.int (nI c)] σ (fun r σ' => r = bI (isBl c) ∧ σ' = σ) := by
  refine vm_int (y := mX3_isBlank) (by decide) (Nat.le_of_ble_eq_true rfl) (ls0 := [some (.int (nI c))]) rfl rfl (fun C F K => ?_)
  have F : vm_F G C cX3_isBlank RX3 1 _ := F
  show vm_Ex G C 1 0 [some (.int (nI c))] [] _
  refine q_iload_n F 0 dX3_isBlank_0 rfl rfl ?_
  refine q_bipush F (nI 32) dX3_isBlank_1 (by decide) ?_
  refine n_eq F 12 dX3_isBlank_3 (by decide) (by omega) (by omega) (fun c_3 => ?_) (fun c_3 => ?_)
  · refine q_iconst F (nI 1) dX3_isBlank_12 (by decide) ?_
    refine q_goto F 17 dX3_isBlank_13 (by decide) ?_
    refine K _ _ _ _ ?_ dX3_isBlank_17 (by decide)
    refine ⟨?_, rfl⟩
    simp [isBl, bI, nI_one, nI_0, c_3]
  · refine q_iload_n F 0 dX3_isBlank_6 rfl rfl ?_
    refine q_bipush F (nI 10) dX3_isBlank_7 (by decide) ?_
    refine n_ne F 16 dX3_isBlank_9 (by decide) (by omega) (by omega) (fun c_9 => ?_) (fun c_9 => ?_)
    · refine q_iconst F (nI 0) dX3_isBlank_16 (by decide) ?_
      refine K _ _ _ _ ?_ dX3_isBlank_17 (by decide)
      refine ⟨?_, rfl⟩
      simp [isBl, bI, nI_one, nI_0, c_3, c_9]
    · refine q_iconst F (nI 1) dX3_isBlank_12 (by decide) ?_
      refine q_goto F 17 dX3_isBlank_13 (by decide) ?_
      refine K _ _ _ _ ?_ dX3_isBlank_17 (by decide)
      refine ⟨?_, rfl⟩
      simp [isBl, bI, nI_one, nI_0, c_3, c_9]
set_option maxHeartbeats 4000000 in
set_option maxRecDepth 100000 in
theorem c_isLetter {G : vm_G} {σ : vm_M} {c : Nat} (hc : c < 256) : vm_RI G 0 mX3_isLetter [.int (nI c)] σ (fun r σ' => r = bI (isLe c) ∧ σ' = σ) := by
  refine vm_int (y := mX3_isLetter) (by decide) (Nat.le_of_ble_eq_true rfl) (ls0 := [some (.int (nI c))]) rfl rfl (fun C F K => ?_)
  have F : vm_F G C cX3_isLetter RX3 1 _ := F
  show vm_Ex G C 1 0 [some (.int (nI c))] [] _
  refine q_iload_n F 0 dX3_isLetter_0 rfl rfl ?_
  refine q_bipush F (nI 97) dX3_isLetter_1 (by decide) ?_
  refine n_lt F 16 dX3_isLetter_3 (by decide) (by omega) (by omega) (fun c_3 => ?_) (fun c_3 => ?_)
  · refine q_iconst F (nI 0) dX3_isLetter_16 (by decide) ?_
    refine K _ _ _ _ ?_ dX3_isLetter_17 (by decide)
    refine ⟨?_, rfl⟩
    first
      | rw [show isLe c = true by simp [isLe]; omega]; decide
      | rw [show isLe c = false by simp [isLe]; omega]; decide
  · refine q_iload_n F 0 dX3_isLetter_6 rfl rfl ?_
    refine q_bipush F (nI 122) dX3_isLetter_7 (by decide) ?_
    refine n_gt F 16 dX3_isLetter_9 (by decide) (by omega) (by omega) (fun c_9 => ?_) (fun c_9 => ?_)
    · refine q_iconst F (nI 0) dX3_isLetter_16 (by decide) ?_
      refine K _ _ _ _ ?_ dX3_isLetter_17 (by decide)
      refine ⟨?_, rfl⟩
      first
        | rw [show isLe c = true by simp [isLe]; omega]; decide
        | rw [show isLe c = false by simp [isLe]; omega]; decide
    · refine q_iconst F (nI 1) dX3_isLetter_12 (by decide) ?_
      refine q_goto F 17 dX3_isLetter_13 (by decide) ?_
      refine K _ _ _ _ ?_ dX3_isLetter_17 (by decide)
      refine ⟨?_, rfl⟩
      first
        | rw [show isLe c = true by simp [isLe]; omega]; decide
        | rw [show isLe c = false by simp [isLe]; omega]; decide
set_option maxHeartbeats 4000000 in
set_option maxRecDepth 100000 in
theorem c_isFigure {G : vm_G} {σ : vm_M} {c : Nat} (hc : c < 256) : vm_RI G 0 mX3_isFigure [.int (nI c)] σ (fun r σ' => r = bI (isFi c) ∧ σ' = σ) := by
  refine vm_int (y := mX3_isFigure) (by decide) (Nat.le_of_ble_eq_true rfl) (ls0 := [some (.int (nI c))]) rfl rfl (fun C F K => ?_)
  have F : vm_F G C cX3_isFigure RX3 1 _ := F
  show vm_Ex G C 1 0 [some (.int (nI c))] [] _
  refine q_iload_n F 0 dX3_isFigure_0 rfl rfl ?_
  refine q_bipush F (nI 48) dX3_isFigure_1 (by decide) ?_
  refine n_lt F 16 dX3_isFigure_3 (by decide) (by omega) (by omega) (fun c_3 => ?_) (fun c_3 => ?_)
  · refine q_iconst F (nI 0) dX3_isFigure_16 (by decide) ?_
    refine K _ _ _ _ ?_ dX3_isFigure_17 (by decide)
    refine ⟨?_, rfl⟩
    first
      | rw [show isFi c = true by simp [isFi]; omega]; decide
      | rw [show isFi c = false by simp [isFi]; omega]; decide
  · refine q_iload_n F 0 dX3_isFigure_6 rfl rfl ?_
    refine q_bipush F (nI 57) dX3_isFigure_7 (by decide) ?_
    refine n_gt F 16 dX3_isFigure_9 (by decide) (by omega) (by omega) (fun c_9 => ?_) (fun c_9 => ?_)
    · refine q_iconst F (nI 0) dX3_isFigure_16 (by decide) ?_
      refine K _ _ _ _ ?_ dX3_isFigure_17 (by decide)
      refine ⟨?_, rfl⟩
      first
        | rw [show isFi c = true by simp [isFi]; omega]; decide
        | rw [show isFi c = false by simp [isFi]; omega]; decide
    · refine q_iconst F (nI 1) dX3_isFigure_12 (by decide) ?_
      refine q_goto F 17 dX3_isFigure_13 (by decide) ?_
      refine K _ _ _ _ ?_ dX3_isFigure_17 (by decide)
      refine ⟨?_, rfl⟩
      first
        | rw [show isFi c = true by simp [isFi]; omega]; decide
        | rw [show isFi c = false by simp [isFi]; omega]; decide
