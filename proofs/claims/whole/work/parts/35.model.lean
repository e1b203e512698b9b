/-! ===== THE MODEL'S STATE, in the same values ===== -/
/-- ways as a set -/
def wM (wy : Nat → Bool) : Nat → Nat
  | 0 => 0
  | p + 1 => if wy p then wM wy p + 2 ^ p else wM wy p
theorem wM_lt (wy : Nat → Bool) : ∀ n, wM wy n < 2 ^ n
  | 0 => Nat.one_pos
  | n + 1 => by
    have := wM_lt wy n
    rw [wM, Nat.pow_succ]
    split <;> omega
theorem wM_congr {f g : Nat → Bool} : ∀ {n : Nat}, (∀ p, p < n → f p = g p) → wM f n = wM g n
  | 0, _ => rfl
  | n + 1, h => by
    rw [wM, wM, wM_congr (n := n) (fun p hp => h p (by omega)), h n (by omega)]
/-- what moves, where it begins with the finished: cell o, place b -/
def mMov (σ : vm_M) (o b : Nat) (v : vm_V) : Prop := σ o b = V_fin v ∧ σ o (b + 1) = nI (wM (V_wy v) (V_n v)) ∧ (∀ p, p < V_n v → σ o (b + 2 + p) = V_sp v p ∧ σ o (b + 8 + p) = nI (V_er v p)) ∧ ∃ p, p < 6 ∧ σ o (b + 8 + p) = nI 0
theorem mMov.fr {σ σ' : vm_M} {o b b' : Nat} {v : vm_V} (h : mMov σ o b v) (hn : V_n v ≤ 6) (o' : Nat) (hf : ∀ k, k < 14 → σ' o' (b' + k) = σ o (b + k)) : mMov σ' o' b' v := by
  obtain ⟨h1, h2, h3, p, hp, h4⟩ := h
  refine ⟨(hf 0 (by omega)).trans h1, (hf 1 (by omega)).trans h2, fun p hp => ?_, p, hp, ?_⟩
  · obtain ⟨h5, h6⟩ := h3 p hp
    rw [Nat.add_assoc] at h5 h6
    rw [Nat.add_assoc, Nat.add_assoc]
    exact ⟨(hf (2 + p) (by omega)).trans h5, (hf (8 + p) (by omega)).trans h6⟩
  · rw [Nat.add_assoc] at h4 ⊢
    exact (hf (8 + p) (by omega)).trans h4
/-- what stays: the section at b of the model's row -/
def mFix (σ : vm_M) (b : Nat) (v : vm_V) : Prop := σ 203 (b + 1) = nI (V_top v) ∧ σ 203 (b + 2) = nI (V_law v) ∧ σ 203 (b + 3) = nI (V_n v) ∧ ∀ p, p < V_n v → σ 203 (b + 19 + p) = nI (V_kd v p) ∧ σ 203 (b + 25 + p) = V_gl v p
/-- a whole section: what stays, how many have gone, what moves -/
def mSec (σ : vm_M) (b : Nat) (v : vm_V) : Prop := mFix σ b v ∧ σ 203 (b + 4) = nI (V_gn v) ∧ mMov σ 203 (b + 5) v
def mRows (σ : vm_M) (rl rn : Nat → Nat) (ri : Nat → Nat → Int32) : Prop := ∀ r, r < 8 → σ 206 r = (if rl r = 0 then -1000000 else nI (rl r - 1)) ∧ (rl r ≠ 0 → σ 207 r = nI (rn r) ∧ ∀ k, k < rn r → σ 208 (40 * r + k) = ri r k)
def mTape (σ : vm_M) (tl : Nat) (tb : Nat → Nat) : Prop := σ 202 4 = nI tl ∧ ∀ k, k < tl → σ 205 k = nI (tb k)
def mPast (σ : vm_M) (pl : Nat) (pv : Nat → vm_V) : Prop := σ 202 2 = nI pl ∧ ∀ i, i < pl → mMov σ 204 (14 * i) (pv i)
def mImg (σ : vm_M) (im : Nat → Bool) (iv : Nat → vm_V) : Prop := ∀ k, k < 2 → σ 203 (31 * (k + 1)) = bI (im k) ∧ (im k = true → mSec σ (31 * (k + 1)) (iv k))
def mTr (σ : vm_M) (tn : Nat) (tr : Nat → Int32) : Prop := σ 202 11 = nI tn ∧ ∀ i, i < tn → σ 209 i = tr i
/-- the model's memory holds the state -/
def MInv (σ : vm_M) (T : vm_T) : Prop := mRows σ (T_rl T) (T_rn T) (T_ri T) ∧ mTape σ (T_tl T) (T_tb T) ∧ (σ 203 0 = bI (T_hp T) ∧ mSec σ 0 (T_nw T)) ∧ mPast σ (T_pl T) (T_pv T) ∧ mImg σ (T_im T) (T_iv T) ∧ mTr σ (T_tn T) (T_tr T) ∧ σ 202 5 = T_flt T ∧ σ 202 6 = T_fnd T
/-- what a method of the model leaves: answer, state; the class's cells are untouched -/
def mPost (σ : vm_M) (a : Int32 × vm_T) : Int32 → vm_M → Prop := fun r σ' => r = a.1 ∧ MInv σ' a.2 ∧ ∀ o, o < 202 → σ' o = σ o
theorem CInv.of {σ σ' : vm_M} {T : vm_T} (h : CInv σ T) (hf : ∀ o, o < 202 → σ' o = σ o) : CInv σ' T := h.fr (fun o a _ _ _ => hf o a)
theorem MInv.of {σ σ' : vm_M} {T : vm_T} (h : MInv σ T) (hf : ∀ o, 202 ≤ o → σ' o = σ o) : MInv σ' T := by
  unfold MInv mRows mTape mSec mPast mImg mTr mFix mMov at *
  simp only [mSec, mFix, mMov] at *
  rw [hf 202 (by omega), hf 203 (by omega), hf 204 (by omega), hf 205 (by omega), hf 206 (by omega), hf 207 (by omega), hf 208 (by omega), hf 209 (by omega)]
  exact h
