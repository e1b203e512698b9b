/-! ===== WHAT IS SAID: the walk as plain functions ===== -/
theorem nI_one : nI 1 = 1 := by decide
theorem vm_u_same {α : Type} (f : Nat → α) (k : Nat) : vm_u f k (f k) = f := by
  funext j
  by_cases h : j = k <;> simp [vm_u, h]
/-- one comes a spot farther: spots and ways -/
def sW (top : Nat) (p : Nat) (s : (Nat → Int32) × (Nat → Bool)) : (Nat → Int32) × (Nat → Bool) :=
  (vm_u s.1 p (s.1 p + (if (if s.1 p = (if s.2 p then nI top else nI 0) then !(s.2 p) else s.2 p) then nI 1 else -1)), vm_u s.2 p (if s.1 p = (if s.2 p then nI top else nI 0) then !(s.2 p) else s.2 p))
def sA (kd : Nat → Nat) (top : Nat) : Nat → (Nat → Int32) × (Nat → Bool) → (Nat → Int32) × (Nat → Bool)
  | 0, s => s
  | i + 1, s => if kd i = 5 then sA kd top i s else sW top i (sA kd top i s)
def sDM (kd : Nat → Nat) (sp : Nat → Int32) (wy : Nat → Bool) (p q : Nat) : Bool := kd p != 5 && kd q != 5 && decide (sp p = sp q) && wy p != wy q
/-- two meet, by the law: ways and errands -/
def sM (law p q : Nat) (s : (Nat → Bool) × (Nat → Nat)) : (Nat → Bool) × (Nat → Nat) :=
  if law = 1 then s else (if law = 0 then vm_u (vm_u s.1 p (!s.1 p)) q (!(vm_u s.1 p (!s.1 p) q)) else s.1, vm_u (vm_u s.2 p (s.2 q)) q (s.2 p))
def sMq (kd : Nat → Nat) (sp : Nat → Int32) (law p q : Nat) (s : (Nat → Bool) × (Nat → Nat)) : (Nat → Bool) × (Nat → Nat) := if sDM kd sp s.1 p q then sM law p q s else s
def sBq (kd : Nat → Nat) (sp : Nat → Int32) (law p : Nat) : Nat → (Nat → Bool) × (Nat → Nat) → (Nat → Bool) × (Nat → Nat)
  | 0, s => s
  | q + 1, s => sMq kd sp law p q (sBq kd sp law p q s)
def sB (kd : Nat → Nat) (sp : Nat → Int32) (law : Nat) : Nat → (Nat → Bool) × (Nat → Nat) → (Nat → Bool) × (Nat → Nat)
  | 0, s => s
  | p + 1, s => sBq kd sp law p p (sB kd sp law p s)
def sBit (e : Nat) : Int32 := nI 1 <<< (nI e &&& 31)
def sC (gl sp : Nat → Int32) (er : Nat → Nat) : Nat → Int32 → Int32
  | 0, f => f
  | i + 1, f => if sp i = gl (er i) then sC gl sp er i f ||| sBit (er i) else sC gl sp er i f
abbrev V_kd (v : vm_V) := v.1
abbrev V_gl (v : vm_V) := v.2.1
abbrev V_sp (v : vm_V) := v.2.2.1
abbrev V_wy (v : vm_V) := v.2.2.2.1
abbrev V_er (v : vm_V) := v.2.2.2.2.1
abbrev V_top (v : vm_V) := v.2.2.2.2.2.1
abbrev V_law (v : vm_V) := v.2.2.2.2.2.2.1
abbrev V_n (v : vm_V) := v.2.2.2.2.2.2.2.1
abbrev V_gn (v : vm_V) := v.2.2.2.2.2.2.2.2.1
abbrev V_fin (v : vm_V) := v.2.2.2.2.2.2.2.2.2
/-- a half minute -/
def sH (v : vm_V) : vm_V :=
  (V_kd v, V_gl v, (sA (V_kd v) (V_top v) (V_n v) (V_sp v, V_wy v)).1,
   (sB (V_kd v) (sA (V_kd v) (V_top v) (V_n v) (V_sp v, V_wy v)).1 (V_law v) (V_n v) ((sA (V_kd v) (V_top v) (V_n v) (V_sp v, V_wy v)).2, V_er v)).1,
   (sB (V_kd v) (sA (V_kd v) (V_top v) (V_n v) (V_sp v, V_wy v)).1 (V_law v) (V_n v) ((sA (V_kd v) (V_top v) (V_n v) (V_sp v, V_wy v)).2, V_er v)).2,
   V_top v, V_law v, V_n v, V_gn v + 1,
   sC (V_gl v) (sA (V_kd v) (V_top v) (V_n v) (V_sp v, V_wy v)).1 (sB (V_kd v) (sA (V_kd v) (V_top v) (V_n v) (V_sp v, V_wy v)).1 (V_law v) (V_n v) ((sA (V_kd v) (V_top v) (V_n v) (V_sp v, V_wy v)).2, V_er v)).2 (V_n v) (V_fin v))
def sHs : Nat → vm_V → vm_V
  | 0, v => v
  | i + 1, v => sH (sHs i v)
/-- the first that is so, below m; m -/
def sF (f : Nat → Bool) : Nat → Nat
  | 0 => 0
  | m + 1 => if sF f m < m then sF f m else if f m then m else m + 1
/-- each of the first n has an errand below n -/
def sE (n : Nat) (er : Nat → Nat) : Prop := ∀ p, p < n → er p < n
theorem sE_M {n law p q : Nat} {s : (Nat → Bool) × (Nat → Nat)} (h : sE n s.2) (hp : p < n) (hq : q < n) : sE n (sM law p q s).2 := by
  unfold sM
  by_cases hl : law = 1
  · rw [if_pos hl]; exact h
  · rw [if_neg hl]
    intro k hk
    simp only [vm_u]
    split
    · exact h p hp
    · split
      · exact h q hq
      · exact h k hk
theorem sE_Mq {kd : Nat → Nat} {sp : Nat → Int32} {n law p q : Nat} {s : (Nat → Bool) × (Nat → Nat)} (h : sE n s.2) (hp : p < n) (hq : q < n) : sE n (sMq kd sp law p q s).2 := by
  unfold sMq
  split
  · exact sE_M h hp hq
  · exact h
theorem sE_Bq {kd : Nat → Nat} {sp : Nat → Int32} {n law p : Nat} {s : (Nat → Bool) × (Nat → Nat)} (h : sE n s.2) (hp : p < n) : ∀ q, q ≤ p → sE n (sBq kd sp law p q s).2
  | 0, _ => h
  | q + 1, hq => sE_Mq (sE_Bq h hp q (by omega)) hp (by omega)
theorem sE_B {kd : Nat → Nat} {sp : Nat → Int32} {n law : Nat} {s : (Nat → Bool) × (Nat → Nat)} (h : sE n s.2) : ∀ p, p ≤ n → sE n (sB kd sp law p s).2
  | 0, _ => h
  | p + 1, hp => sE_Bq (sE_B h p (by omega)) (by omega) p (Nat.le_refl _)
theorem sE_H {v : vm_V} (h : sE (V_n v) (V_er v)) : sE (V_n (sH v)) (V_er (sH v)) := sE_B (s := (_, V_er v)) h _ (Nat.le_refl _)
theorem sE_Hs {v : vm_V} (h : sE (V_n v) (V_er v)) : ∀ i, sE (V_n (sHs i v)) (V_er (sHs i v))
  | 0 => h
  | i + 1 => sE_H (sE_Hs h i)
theorem sH_n (v : vm_V) : V_n (sH v) = V_n v := rfl
theorem sHs_n (v : vm_V) : ∀ i, V_n (sHs i v) = V_n v
  | 0 => rfl
  | i + 1 => by rw [sHs, sH_n, sHs_n v i]
theorem sF_le (f : Nat → Bool) : ∀ m, sF f m ≤ m
  | 0 => Nat.le_refl 0
  | m + 1 => by
    have := sF_le f m
    unfold sF
    split
    · omega
    · split <;> omega
theorem sF_none {f : Nat → Bool} : ∀ {m : Nat}, (∀ p, p < m → f p = false) → sF f m = m
  | 0, _ => rfl
  | m + 1, h => by
    have h1 := sF_none (f := f) (m := m) (fun p hp => h p (by omega))
    unfold sF
    rw [h1, if_neg (by omega), h m (by omega)]
    rfl
theorem sF_at {f : Nat → Bool} {i : Nat} (h : ∀ p, p < i → f p = false) (hi : f i = true) : ∀ {m : Nat}, i < m → sF f m = i
  | 0, hm => absurd hm (Nat.not_lt_zero _)
  | m + 1, hm => by
    unfold sF
    rcases Nat.lt_or_ge i m with q | q
    · rw [sF_at h hi q, if_pos q]
    · have e : i = m := by omega
      subst e
      rw [sF_none h, if_neg (by omega), hi]
      rfl
theorem sF_lt {f : Nat → Bool} : ∀ {m : Nat}, sF f m < m → f (sF f m) = true
  | 0, h => absurd h (Nat.not_lt_zero _)
  | m + 1, h => by
    unfold sF at h ⊢
    by_cases c : sF f m < m
    · rw [if_pos c] at h ⊢
      exact sF_lt c
    · rw [if_neg c] at h ⊢
      by_cases d : f m = true
      · rw [if_pos d]; exact d
      · rw [if_neg d] at h; omega
theorem sF_before {f : Nat → Bool} : ∀ {m p : Nat}, p < sF f m → f p = false
  | 0, p, h => absurd h (Nat.not_lt_zero _)
  | m + 1, p, h => by
    unfold sF at h
    have hle := sF_le f m
    by_cases c : sF f m < m
    · rw [if_pos c] at h
      exact sF_before h
    · rw [if_neg c] at h
      have e : sF f m = m := by omega
      by_cases d : f m = true
      · rw [if_pos d] at h
        exact sF_before (m := m) (by omega)
      · rw [if_neg d] at h
        rcases Nat.lt_or_ge p m with q | q
        · exact sF_before (m := m) (by omega)
        · have : p = m := by omega
          subst this
          simpa using d
/-- who has an errand -/
def sHold (e : Nat) (v : vm_V) : Nat := sF (fun p => V_er v p == e) (V_n v - 1)
def sS (e : Nat) (v : vm_V) : Nat → Int32
  | 0 => sBit (sHold e v)
  | i + 1 => sS e v i ||| sBit (sHold e (sHs (i + 1) v))
/-- behind how many halves the wanted errands are done (most + 1: not behind most) -/
def sU (w : Int32) (v : vm_V) (most : Nat) : Nat := sF (fun k => decide (V_fin (sHs k v) &&& w = w)) (most + 1)
theorem bit_at : ∀ s, s < 64 → ∀ p, p < 6 → (nI s >>> (nI p &&& 31)) &&& nI 1 = bI (s.testBit p) := by decide +kernel
theorem pow_at : ∀ n, n < 7 → nI 1 <<< (nI n &&& 31) = nI (2 ^ n) := by decide +kernel
theorem sw3 (x : Int32) : x = nI 0 ∨ x = nI 1 ∨ x = nI 2 ∨ ((x.toInt < 0 ∨ 2 < x.toInt) ∧ ¬ x = nI 0 ∧ ¬ x = nI 1 ∧ ¬ x = nI 2) := by
  rcases (show x.toInt < 0 ∨ 0 ≤ x.toInt by omega) with h | h
  · refine Or.inr (Or.inr (Or.inr ⟨Or.inl h, ?_, ?_, ?_⟩)) <;> (intro e; rw [e] at h; revert h; decide)
  · rcases (show 2 < x.toInt ∨ x.toInt ≤ 2 by omega) with h2 | h2
    · refine Or.inr (Or.inr (Or.inr ⟨Or.inr h2, ?_, ?_, ?_⟩)) <;> (intro e; rw [e] at h2; revert h2; decide)
    · rcases (show x.toInt = 0 ∨ x.toInt = 1 ∨ x.toInt = 2 by omega) with e | e | e
      · exact Or.inl (Int32.toInt_inj.mp (by rw [e]; decide))
      · exact Or.inr (Or.inl (Int32.toInt_inj.mp (by rw [e]; decide)))
      · exact Or.inr (Or.inr (Or.inl (Int32.toInt_inj.mp (by rw [e]; decide))))
/-- a set to set out by, in bits -/
def sCan (kd : Nat → Nat) (n s : Nat) : Bool := !(decide (sF (fun p => kd p == 5 && s.testBit p) n < n))
def sSet (kd : Nat → Nat) (s : Nat) : Nat → (Nat → Bool) → Nat → Bool
  | 0, wy => wy
  | i + 1, wy => if kd i = 5 then sSet kd s i wy else vm_u (sSet kd s i wy) i (s.testBit i)
def sTell (v : vm_V) (p : Nat) (w : Int32) : Int32 := if w = nI 0 then V_sp v p else if w = nI 1 then bI (V_wy v p) else if w = nI 2 then nI (V_er v p) else -1000001
theorem vm_P_out {σ : vm_M} {b o : Nat} {v : vm_V} (h : o < b ∨ b + 5 < o) : vm_P σ b v o = σ o := by
  unfold vm_P
  rw [if_neg (by omega), if_neg (by omega), if_neg (by omega), if_neg (by omega), if_neg (by omega), if_neg (by omega)]
theorem vm_cell_congr {cA : ClassId} {n : Nat} {f g : Nat → Int32} (h : ∀ j, j < n → f j = g j) : vp_cell cA (n, .inl f) = vp_cell cA (n, .inl g) := by
  rw [vp_cell_i, vp_cell_i]
  unfold arrV
  congr 2
  refine funext (fun j => ?_)
  exact congrArg Value.int (h j.val j.isLt)
theorem vm_conv2 {G : vm_G} {C : vm_C} {nL pc : Nat} {ls : List (Option Value)} {st : List Value} {σ σ' : vm_M} (h : ∀ k j, k < vm_N → j < (vm_sh k).2.1 → σ k j = σ' k j) (k : vm_Ex G C nL pc ls st σ') : vm_Ex G C nL pc ls st σ := by
  intro H locs la hP
  refine k H locs la (fun i q hi => ?_)
  obtain ⟨hN, rfl⟩ := vm_ws_inv hi
  have h1 := hP i _ (vm_ws_at hN)
  by_cases c : (vm_sh i).1 < 9
  · have e : vm_cell G σ i = vm_cell G σ' i := by
      unfold vm_cell
      rw [if_pos c, if_pos c]
      congr 2
      refine List.map_congr_left (fun j hj => ?_)
      unfold vm_slot
      rw [h i j hN (List.mem_range.mp hj)]
    rwa [← e]
  · by_cases c2 : (vm_sh i).1 < 12
    · rw [vm_cell_i rfl c c2] at h1 ⊢
      have h2 : H[G.2.2.1 i]? = some (vp_cell _ _) := h1
      exact h2.trans (congrArg some (vm_cell_congr (fun j hj => h i j hN hj)))
    · rw [vm_cell_r rfl c c2] at h1 ⊢
      exact h1
/-- the memory in which the first i places of the path b's arrays are those of b2 -/
def vm_cpy (σ : vm_M) (b b2 i : Nat) : vm_M := fun o k => if b < o ∧ o ≤ b + 5 ∧ k < i then σ (b2 + (o - b)) k else σ o k
theorem vm_cpy_0 (σ : vm_M) (b b2 : Nat) : vm_cpy σ b b2 0 = σ := by
  funext o k
  simp [vm_cpy]
theorem vm_cpy_s {σ : vm_M} {b b2 i : Nat} (hd : b2 + 5 < b ∨ b + 5 < b2) : vm_upd (vm_upd (vm_upd (vm_upd (vm_upd (vm_cpy σ b b2 i) (b + 1) i (σ (b2 + 1) i)) (b + 2) i (σ (b2 + 2) i)) (b + 3) i (σ (b2 + 3) i)) (b + 4) i (σ (b2 + 4) i)) (b + 5) i (σ (b2 + 5) i) = vm_cpy σ b b2 (i + 1) := by
  funext o k
  by_cases h : b < o ∧ o ≤ b + 5
  · obtain ⟨c, rfl⟩ : ∃ c, o = b + c := ⟨o - b, by omega⟩
    have e : b + c - b = c := by omega
    by_cases hk : k = i
    · subst hk
      rcases (show c = 1 ∨ c = 2 ∨ c = 3 ∨ c = 4 ∨ c = 5 by omega) with rfl | rfl | rfl | rfl | rfl <;> simp [vm_upd, upd, vm_cpy]
    · have e2 : (k < i + 1) = (k < i) := by simp; omega
      rcases (show c = 1 ∨ c = 2 ∨ c = 3 ∨ c = 4 ∨ c = 5 by omega) with rfl | rfl | rfl | rfl | rfl <;> simp [vm_upd, upd, vm_cpy, hk, e2]
  · have h1 : o ≠ b + 1 := by omega
    have h2 : o ≠ b + 2 := by omega
    have h3 : o ≠ b + 3 := by omega
    have h4 : o ≠ b + 4 := by omega
    have h5 : o ≠ b + 5 := by omega
    have h6 : ∀ z : Prop, ¬ (b < o ∧ o ≤ b + 5 ∧ z) := fun z q => h ⟨q.1, q.2.1⟩
    simp [vm_upd, vm_cpy, h1, h2, h3, h4, h5, h6]
theorem vm_cpy_src {σ : vm_M} {b b2 i c : Nat} (hd : b2 + 5 < b ∨ b + 5 < b2) (hc : c ≤ 5) : vm_cpy σ b b2 i (b2 + c) = σ (b2 + c) := by
  funext k
  unfold vm_cpy
  rw [if_neg (by omega)]
