/-! ===== THE CLASS'S STATE, in mathematical values ===== -/
def isP (σ : vm_M) (b : Nat) (v : vm_V) : Prop := vm_P σ b v = σ
theorem vm_P_congr {σ σ' : vm_M} {b o : Nat} {v : vm_V} (h : ∀ o, b ≤ o → o ≤ b + 5 → σ' o = σ o) (ho : b ≤ o ∧ o ≤ b + 5) : vm_P σ' b v o = vm_P σ b v o := by
  unfold vm_P
  rw [h b (Nat.le_refl _) (by omega), h o ho.1 ho.2]
theorem isP.fr {σ σ' : vm_M} {b : Nat} {v : vm_V} (h : isP σ b v) (hf : ∀ o, b ≤ o → o ≤ b + 5 → σ' o = σ o) : isP σ' b v := by
  unfold isP at *
  funext o
  by_cases ho : b ≤ o ∧ o ≤ b + 5
  · rw [vm_P_congr hf ho, h, hf o ho.1 ho.2]
  · rw [vm_P_out (by omega)]
theorem vm_P_P {σ : vm_M} {b : Nat} {v w : vm_V} : vm_P (vm_P σ b v) b w = vm_P σ b w := by
  funext o k
  by_cases h0 : o = b
  · subst h0
    by_cases k5 : k = 5
    · subst k5; simp [vm_P]
    · by_cases k6 : k = 6
      · subst k6; simp [vm_P]
      · by_cases k7 : k = 7
        · subst k7; simp [vm_P]
        · by_cases k8 : k = 8
          · subst k8; simp [vm_P]
          · by_cases k9 : k = 9
            · subst k9; simp [vm_P]
            · simp [vm_P, k5, k6, k7, k8, k9]
  · by_cases h : b < o ∧ o ≤ b + 5
    · obtain ⟨c, rfl⟩ : ∃ c, o = b + c := ⟨o - b, by omega⟩
      rcases (show c = 1 ∨ c = 2 ∨ c = 3 ∨ c = 4 ∨ c = 5 by omega) with rfl | rfl | rfl | rfl | rfl <;> simp [vm_P]
    · rw [vm_P_out (by omega), vm_P_out (by omega), vm_P_out (by omega)]
theorem isP_P (σ : vm_M) (b : Nat) (v : vm_V) : isP (vm_P σ b v) b v := vm_P_P
theorem isP_other {σ : vm_M} {b b2 : Nat} {v w : vm_V} (h : isP σ b v) (hd : b2 + 5 < b ∨ b + 5 < b2) : isP (vm_P σ b2 w) b v := h.fr (fun o h1 h2 => vm_P_out (by omega))
def cRows (σ : vm_M) (rl rn : Nat → Nat) (ri : Nat → Nat → Int32) : Prop := ∀ r, r < 8 → rl r < 4 ∧ σ (174 + 2 * r) 1 = bI (decide (rl r ≠ 0)) ∧ (rl r ≠ 0 → σ (174 + 2 * r) 2 = nI (rl r - 1) ∧ σ (174 + 2 * r) 3 = nI (rn r) ∧ rn r ≤ 40 ∧ ∀ k, k < rn r → σ (174 + 2 * r + 1) k = ri r k)
theorem cRows.fr {σ σ' : vm_M} {rl rn : Nat → Nat} {ri : Nat → Nat → Int32} (h : cRows σ rl rn ri) (hf : ∀ o, 174 ≤ o → o ≤ 189 → σ' o = σ o) : cRows σ' rl rn ri := by
  intro r hr
  have := h r hr
  rw [hf _ (by omega) (by omega), hf _ (by omega) (by omega)]
  exact this
def cTape (σ : vm_M) (tl : Nat) (tb : Nat → Nat) : Prop := σ 3 1 = nI tl ∧ tl ≤ 400 ∧ ∀ k, k < tl → σ 4 k = nI (tb k) ∧ tb k < 256
theorem cTape.fr {σ σ' : vm_M} {tl : Nat} {tb : Nat → Nat} (h : cTape σ tl tb) (h1 : σ' 3 = σ 3) (h2 : σ' 4 = σ 4) : cTape σ' tl tb := by
  unfold cTape at *
  rw [h1, h2]
  exact h
def cNow (σ : vm_M) (hp : Bool) (nw : vm_V) : Prop := σ 0 10 = bI hp ∧ isP σ 5 nw
theorem cNow.fr {σ σ' : vm_M} {hp : Bool} {nw : vm_V} (h : cNow σ hp nw) (h1 : σ' 0 10 = σ 0 10) (hf : ∀ o, 5 ≤ o → o ≤ 10 → σ' o = σ o) : cNow σ' hp nw := ⟨h1.trans h.1, h.2.fr hf⟩
def pastB (nx pl i : Nat) : Nat := 27 + 6 * ((nx + 24 - pl + i) % 24)
def cPast (σ : vm_M) (pl : Nat) (pv : Nat → vm_V) : Prop := ∃ nx, nx < 24 ∧ σ 25 1 = nI nx ∧ σ 25 2 = nI pl ∧ pl ≤ 24 ∧ ∀ i, i < pl → isP σ (pastB nx pl i) (pv i)
theorem cPast.fr {σ σ' : vm_M} {pl : Nat} {pv : Nat → vm_V} (h : cPast σ pl pv) (hf : ∀ o, 25 ≤ o → o ≤ 170 → σ' o = σ o) : cPast σ' pl pv := by
  obtain ⟨nx, h1, h2, h3, h4, h5⟩ := h
  refine ⟨nx, h1, by rw [hf 25 (by omega) (by omega)]; exact h2, by rw [hf 25 (by omega) (by omega)]; exact h3, h4, fun i hi => (h5 i hi).fr (fun o h6 h7 => hf o ?_ ?_)⟩
  · unfold pastB at h6; omega
  · unfold pastB at h7; omega
def cImg (σ : vm_M) (im : Nat → Bool) (iv : Nat → vm_V) : Prop := ∀ k, k < 2 → σ 24 k = bI (im k) ∧ (im k = true → isP σ (190 + 6 * k) (iv k))
theorem cImg.fr {σ σ' : vm_M} {im : Nat → Bool} {iv : Nat → vm_V} (h : cImg σ im iv) (h1 : σ' 24 = σ 24) (hf : ∀ o, 190 ≤ o → o ≤ 201 → σ' o = σ o) : cImg σ' im iv := by
  intro k hk
  obtain ⟨h2, h3⟩ := h k hk
  exact ⟨by rw [h1]; exact h2, fun e => (h3 e).fr (fun o h4 h5 => hf o (by omega) (by omega))⟩
def cTr (σ : vm_M) (tn : Nat) (tr : Nat → Int32) : Prop := σ 171 1 = nI tn ∧ tn ≤ 16 ∧ ∀ i, i < tn → σ 172 i = tr i
theorem cTr.fr {σ σ' : vm_M} {tn : Nat} {tr : Nat → Int32} (h : cTr σ tn tr) (h1 : σ' 171 = σ 171) (h2 : σ' 172 = σ 172) : cTr σ' tn tr := by
  unfold cTr at *
  rw [h1, h2]
  exact h
def cDr (σ : vm_M) : Prop := ∃ v, isP σ 11 v
theorem cDr.fr {σ σ' : vm_M} (h : cDr σ) (hf : ∀ o, 11 ≤ o → o ≤ 16 → σ' o = σ o) : cDr σ' := by
  obtain ⟨v, h⟩ := h
  exact ⟨v, h.fr hf⟩
/-- within 0 .. n - 1 -/
def wi (x : Int32) (n : Nat) : Bool := decide (0 ≤ x.toInt ∧ x.toInt < n)
theorem wi_nI {j n : Nat} (hj : j < 2 ^ 31) : wi (nI j) n = decide (j < n) := by
  unfold wi
  rw [nI_toInt hj]
  congr 1
  apply propext
  constructor
  · intro h; omega
  · intro h; omega
theorem wi_of {x : Int32} {n : Nat} (h : wi x n = true) : ∃ j, j < n ∧ x = nI j := by
  unfold wi at h
  have h := of_decide_eq_true h
  refine ⟨x.toInt.toNat, by omega, ?_⟩
  apply Int32.toInt_inj.mp
  rw [nI_toInt (by have := x.toInt_lt; omega)]
  omega
/-- bytes, shorts, ints: lane 1, 2, 3 -/
def sNar (l : Nat) (v : Int32) : Int32 := if l = 1 then v.toInt8.toInt32 else if l = 2 then v.toInt16.toInt32 else v
def sRun (i n : Int32) (len : Nat) : Bool := decide (0 ≤ n.toInt ∧ 0 ≤ i.toInt ∧ i.toInt + n.toInt ≤ len)
def sUp (k : Nat) : Nat → Nat
  | 0 => k
  | i + 1 => (vm_isToo.getD (sUp k i) 0).toNatClampNeg
theorem up_lt : ∀ k, k < 6 → (vm_isToo.getD k 0).toNatClampNeg < 6 ∧ vm_isToo.getD k 0 = nI (vm_isToo.getD k 0).toNatClampNeg := by decide +kernel
theorem sUp_lt {k : Nat} (h : k < 6) : ∀ i, sUp k i < 6
  | 0 => h
  | i + 1 => (up_lt _ (sUp_lt h i)).1
def sIs (k w : Nat) : Bool := (List.range 7).any (fun i => sUp k i == w)
theorem sIs_t {k w i : Nat} (h : sUp k i = w) (hi : i < 7) : sIs k w = true := List.any_eq_true.mpr ⟨i, List.mem_range.mpr hi, by simp [h]⟩
theorem sIs_f {k w : Nat} (h : ∀ i, i < 7 → ¬ sUp k i = w) : sIs k w = false := by
  apply Bool.eq_false_iff.mpr
  intro e
  obtain ⟨i, h1, h2⟩ := List.any_eq_true.mp e
  exact h i (List.mem_range.mp h1) (by simpa using h2)
/-- the nearest body -/
def sNb (l : List Int32) (k : Nat) : Int32 := l.getD (sUp k (sF (fun i => !(decide (l.getD (sUp k i) 0 = 0))) 6)) 0
/-- a number is left in the trace -/
def sLv (x : Int32) (t : Nat × (Nat → Int32)) : Nat × (Nat → Int32) := if t.1 < 16 then (t.1 + 1, vm_u t.2 t.1 x) else t
theorem vp_char_N {q : Nat} (hq : q < 65536) : vp_nar .char (nI q) = nI q := by
  unfold vp_nar
  rw [(pk_charN hq).1]
theorem path5 : vm_pathAt 5 := vm_paths 5 (by decide)
theorem path11 : vm_pathAt 11 := vm_paths 11 (by decide)
theorem path17 : vm_pathAt 17 := vm_paths 17 (by decide)
theorem pathB : ∀ i, i < 24 → vm_pathAt (27 + 6 * i) := fun i hi => vm_paths _ (by simp only [vm_pb, List.mem_append, List.mem_map, List.mem_range]; exact Or.inr ⟨i, hi, rfl⟩)
theorem pathI : ∀ k, k < 2 → vm_pathAt (190 + 6 * k) := fun k hk => vm_paths _ (by
  rcases (show k = 0 ∨ k = 1 by omega) with rfl | rfl <;> decide)
theorem wi_t {x : Int32} {n : Nat} (h1 : ¬ x < 0) (h2 : ¬ nI n ≤ x) (hn : n < 2 ^ 31) : nI 1 = bI (wi x n) := by
  rw [Int32.lt_iff_toInt_lt] at h1
  rw [Int32.le_iff_toInt_le, nI_toInt hn] at h2
  have h0 : (0 : Int32).toInt = 0 := rfl
  have : wi x n = true := decide_eq_true (by omega)
  rw [this]; decide
theorem wi_f1 {x : Int32} {n : Nat} (h1 : x < 0) : nI 0 = bI (wi x n) := by
  rw [Int32.lt_iff_toInt_lt] at h1
  have h0 : (0 : Int32).toInt = 0 := rfl
  have : wi x n = false := decide_eq_false (by omega)
  rw [this]; decide
theorem wi_f2 {x : Int32} {n : Nat} (h2 : nI n ≤ x) (hn : n < 2 ^ 31) : nI 0 = bI (wi x n) := by
  rw [Int32.le_iff_toInt_le, nI_toInt hn] at h2
  have : wi x n = false := decide_eq_false (by omega)
  rw [this]; decide
/-- the call of a nest mate's static -/
theorem q_nest {G : vm_G} {C : vm_C} {cc : ByteArray} {nL d pc d2 : Nat} {ls : List (Option Value)} {st st0 : List Value} {x y : Int32} {σ : vm_M} {post : Int32 → vm_M → Prop} (F : vm_F G C cc RX4 nL d) (dd : decode cc pc = .ok (.invokestatic 26, 3)) (hM : vm_RI G d2 mX7_isWithin [.int x, .int y] σ post) (hd : d2 < d) (hst : .int y :: .int x :: st = st0) (hcat : (st.map fun v => v.category).sum ≤ 8)
    (kk : ∀ v σ2, post v σ2 → vm_Ex G C nL (pc + 3) ls (.int v :: st) σ2) : vm_Ex G C nL pc ls st0 σ := by
  intro H locs la hP hS hl
  obtain ⟨-, -, -, -, -, -, -, -, -, f1, f2, f3, f4⟩ := id F
  obtain ⟨k1, k2, k3, k4, k5, k6⟩ := kX7_76
  have hgood : GoodIn vm_wsA (vm_ws1 mX7_isWithin) := vm_good (fun w hw => by
    simp only [vm_ws1, List.mem_cons] at hw
    rcases hw with rfl | hw <;> assumption)
  exact va_calli (va_runSN (host := "ErrandLanes") (As := [.int x, .int y]) (rest := st.map (vm_rv G.2.2.1)) (g := F0 (vm_cm C) pc la (st0.map (vm_rv G.2.2.1))) (H := H) (locs := locs) (vm_fix F) hM ⟨va_cnB (maxL := 2) (ret := some .boolean) (bytes := cX7_isWithin) 2 F.2.2.2.2.1 hgood rfl rfl rfl F.2.2.2.2.2.2.1.2.2.2.2.2 (F.2.2.2.2.1 _ k5) k1 ⟨by show d2 + 1 ≤ _; omega, by show 8 + (2 + 11) + 40 * d2 ≤ _; omega⟩, F.2.2.2.2.1 _ k4, trivial⟩ ⟨vm_blind G _ σ, fun U hU hW => vm_pre F (As := [.int x, .int y]) hP hS U hU hW⟩ rfl rfl hl.1 (by subst hst; rfl) (lv_room (by rw [vm_cats]; exact hcat)) dd ⟨f3, f4⟩) hS (fun q _ h => vm_AA F q h) (vm_AA F) (fun r u t H1 locs1 ht hvm hw hB hz hk1 hS1 => kk r u hw H1 locs1 la (by rw [← ht]; exact hB.1) hS1 hl)
theorem run_t {x y : Int32} {m : Nat} (h1 : ¬ y < 0) (h2 : ¬ nI m < y) (h3 : ¬ x < 0) (h4 : ¬ nI m - y < x) (hm : m ≤ 40) : nI 1 = bI (sRun x y m) := by
  obtain ⟨j, hj, rfl⟩ := nI_of h1
  obtain ⟨i, hi, rfl⟩ := nI_of h3
  have hjm : j ≤ m := by
    rcases Nat.lt_or_ge m j with q | q
    · exact absurd (nI_lt q hj) h2
    · exact q
  rw [pk_sub hjm] at h4
  have : i ≤ m - j := by
    rcases Nat.lt_or_ge (m - j) i with q | q
    · exact absurd (nI_lt q hi) h4
    · exact q
  have e : sRun (nI i) (nI j) m = true := decide_eq_true (by rw [nI_toInt hi, nI_toInt hj]; omega)
  rw [e]; decide
theorem run_f1 {x y : Int32} {m : Nat} (h1 : y < 0) : nI 0 = bI (sRun x y m) := by
  rw [Int32.lt_iff_toInt_lt] at h1
  have h0 : (0 : Int32).toInt = 0 := rfl
  have e : sRun x y m = false := decide_eq_false (by omega)
  rw [e]; decide
theorem run_f2 {x y : Int32} {m : Nat} (h2 : nI m < y) (hm : m ≤ 40) : nI 0 = bI (sRun x y m) := by
  rw [Int32.lt_iff_toInt_lt, nI_toInt (by omega)] at h2
  have e : sRun x y m = false := decide_eq_false (by omega)
  rw [e]; decide
theorem run_f3 {x y : Int32} {m : Nat} (h3 : x < 0) : nI 0 = bI (sRun x y m) := by
  rw [Int32.lt_iff_toInt_lt] at h3
  have h0 : (0 : Int32).toInt = 0 := rfl
  have e : sRun x y m = false := decide_eq_false (by omega)
  rw [e]; decide
theorem run_f4 {x y : Int32} {m : Nat} (h1 : ¬ y < 0) (h2 : ¬ nI m < y) (h4 : nI m - y < x) (hm : m ≤ 40) : nI 0 = bI (sRun x y m) := by
  obtain ⟨j, hj, rfl⟩ := nI_of h1
  have hjm : j ≤ m := by
    rcases Nat.lt_or_ge m j with q | q
    · exact absurd (nI_lt q hj) h2
    · exact q
  rw [pk_sub hjm, Int32.lt_iff_toInt_lt, nI_toInt (by omega)] at h4
  have e : sRun x (nI j) m = false := decide_eq_false (by rw [nI_toInt hj]; omega)
  rw [e]; decide
