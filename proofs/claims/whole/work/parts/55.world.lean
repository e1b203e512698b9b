/-! ===== THE WORLD: what the constructors make is the virtual memory ===== -/
def wo_S : vm_M := fun k => if k = 173 then (fun j => if j = 1 then -1000000 else 0) else if k = 206 then un_lanes else fun _ => 0
theorem wo_S0 {k : Nat} (h1 : k ≠ 173) (h2 : k ≠ 206) : wo_S k = fun _ => 0 := by unfold wo_S; rw [if_neg h1, if_neg h2]
abbrev wo_V (G : un_G) (ρ : Nat → Nat) : vm_G := (G.1, G.2.1, ρ, G.2.2.1)
def wo_B (G : un_G) (ρ : Nat → Nat) (σ : vm_M) (b : Nat) (L : va_W) : Prop := ∀ j q, L[j]? = some q → q = (ρ (b + j), vm_cell (wo_V G ρ) σ (b + j))
section
variable {G : un_G} {ρ : Nat → Nat} {σ : vm_M}
theorem wo_nil {b : Nat} : wo_B G ρ σ b [] := fun j q h => by simp at h
theorem wo_cons {b : Nat} {q : Nat × va_E} {L : va_W} (h : q = (ρ b, vm_cell (wo_V G ρ) σ b)) (hL : wo_B G ρ σ (b + 1) L) : wo_B G ρ σ b (q :: L)
  | 0, q', e => by simp at e; rw [← e, h]; rfl
  | j + 1, q', e => by
    have := hL j q' (by simpa using e)
    rw [this, show b + 1 + j = b + (j + 1) by omega]
theorem wo_app {b b' : Nat} {L1 L2 : va_W} (h1 : wo_B G ρ σ b L1) (hb : b + L1.length = b') (h2 : wo_B G ρ σ b' L2) : wo_B G ρ σ b (L1 ++ L2) := by
  intro j q e
  by_cases hj : j < L1.length
  · rw [List.getElem?_append_left hj] at e
    exact h1 j q e
  · rw [List.getElem?_append_right (by omega)] at e
    have := h2 _ q e
    rw [this, show b' + (j - L1.length) = b + j by omega]
theorem wo_end {L : va_W} (h : wo_B G ρ σ 0 L) (hl : L.length = vm_N) : L = vm_ws (wo_V G ρ) σ := by
  refine List.ext_getElem? (fun k => ?_)
  by_cases hk : k < vm_N
  · rw [vm_ws_at hk]
    have e := List.getElem?_eq_getElem (l := L) (i := k) (by omega)
    rw [e]
    have := h k _ e
    rw [Nat.zero_add] at this
    rw [this]
  · rw [List.getElem?_eq_none (by omega), List.getElem?_eq_none (by simp [vm_ws]; omega)]
theorem wo_obj {k ci n a : Nat} {rf : List (Option Nat)} {fs : List Value} (hs : vm_sh k = (ci, n, rf)) (hc : ci < 9) (ha : ρ k = a) (he : (List.range n).map (fun j => match (rf[j]?).join with
  | some r => Value.ref (ρ r)
  | none => .int (σ k j)) = fs) : (a, Sum.inr (ci, fs)) = (ρ k, vm_cell (wo_V G ρ) σ k) := by
  unfold vm_cell vm_slot vm_rf
  rw [hs]
  simp only [if_pos hc]
  subst he
  rw [← ha]
  rfl
theorem wo_int {k c n a : Nat} {rf : List (Option Nat)} {f : Nat → Int32} (hs : vm_sh k = (c, n, rf)) (hc : ¬ c < 9) (hc2 : c < 12) (ha : ρ k = a) (hf : σ k = f) : (a, Sum.inl (G.2.2.1 c, n, .inl f)) = (ρ k, vm_cell (wo_V G ρ) σ k) := by
  unfold vm_cell
  rw [hs]
  simp only [if_neg hc, if_pos hc2]
  rw [ha, hf]
theorem wo_ref {k c n a : Nat} {rf : List (Option Nat)} {f : Nat → Option Nat} (hs : vm_sh k = (c, n, rf)) (hc : ¬ c < 12) (ha : ρ k = a) (hf : (fun j => ((rf[j]?).join).map ρ) = f) : (a, Sum.inl (G.2.2.1 c, n, .inr (.inr (.inr (.inr f))))) = (ρ k, vm_cell (wo_V G ρ) σ k) := by
  unfold vm_cell vm_rf
  rw [hs]
  simp only [if_neg hc, if_neg (show ¬ c < 9 by omega)]
  rw [ha, hf]
theorem wo_rf {n : Nat} {g : Nat → Nat} {a : Nat → Nat → Nat} (h : ∀ i, i < n → ρ (g i) = a i 0) : (fun j => ((((List.range n).map (fun i => some (g i)))[j]?).join).map ρ) = un_rf a n := by
  funext j
  unfold un_rf
  by_cases hj : j < n
  · rw [if_pos hj, List.getElem?_map, List.getElem?_range hj]
    show some (ρ (g j)) = _
    rw [h j hj]
  · rw [if_neg hj, List.getElem?_map, List.getElem?_eq_none (by simp; omega)]
    rfl
theorem wo_path {b : Nat} {a : Nat → Nat} (hs : vm_pathAt b) (h : ∀ m, m < 6 → ρ (b + m) = a m ∧ σ (b + m) = fun _ => 0) : wo_B G ρ σ b (un_path G a) := by
  obtain ⟨s0, s1, s2, s3, s4, s5⟩ := hs
  obtain ⟨r0, v0⟩ := h 0 (by omega)
  obtain ⟨r1, v1⟩ := h 1 (by omega)
  obtain ⟨r2, v2⟩ := h 2 (by omega)
  obtain ⟨r3, v3⟩ := h 3 (by omega)
  obtain ⟨r4, v4⟩ := h 4 (by omega)
  obtain ⟨r5, v5⟩ := h 5 (by omega)
  rw [Nat.add_zero] at r0 v0
  refine wo_cons (wo_obj s0 (by decide) r0 ?_) (wo_cons (wo_int s1 (by decide) (by decide) r1 v1) (wo_cons (wo_int s2 (by decide) (by decide) r2 v2) (wo_cons (wo_int s3 (by decide) (by decide) r3 v3) (wo_cons (wo_int s4 (by decide) (by decide) r4 v4) (wo_cons (wo_int s5 (by decide) (by decide) r5 v5) wo_nil)))))
  rw [v0, ← r1, ← r2, ← r3, ← r4, ← r5]
  rfl
theorem wo_paths {b : Nat} {a : Nat → Nat → Nat} : ∀ {n : Nat}, (∀ i, i < n → vm_pathAt (b + 6 * i) ∧ ∀ m, m < 6 → ρ (b + 6 * i + m) = a i m ∧ σ (b + 6 * i + m) = fun _ => 0) → wo_B G ρ σ b (un_paths G a n) ∧ (un_paths G a n).length = 6 * n
  | 0, _ => ⟨wo_nil, rfl⟩
  | n + 1, h => by
    obtain ⟨h1, h2⟩ := wo_paths (n := n) (fun i hi => h i (by omega))
    obtain ⟨h3, h4⟩ := h n (by omega)
    exact ⟨wo_app h1 (by rw [h2]) (wo_path h3 h4), by rw [un_paths, List.length_append, h2]; show 6 * n + 6 = _; omega⟩
theorem wo_row {b : Nat} {a : Nat → Nat} (hs : vm_sh b = (4, 4, [some (b + 1)]) ∧ vm_sh (b + 1) = (9, 40, [])) (h : ∀ m, m < 2 → ρ (b + m) = a m ∧ σ (b + m) = fun _ => 0) : wo_B G ρ σ b (un_row G a) := by
  obtain ⟨s0, s1⟩ := hs
  obtain ⟨r0, v0⟩ := h 0 (by omega)
  obtain ⟨r1, v1⟩ := h 1 (by omega)
  rw [Nat.add_zero] at r0 v0
  refine wo_cons (wo_obj s0 (by decide) r0 ?_) (wo_cons (wo_int s1 (by decide) (by decide) r1 v1) wo_nil)
  rw [v0, ← r1]
  rfl
theorem wo_rows {b : Nat} {a : Nat → Nat → Nat} : ∀ {n : Nat}, (∀ i, i < n → (vm_sh (b + 2 * i) = (4, 4, [some (b + 2 * i + 1)]) ∧ vm_sh (b + 2 * i + 1) = (9, 40, [])) ∧ ∀ m, m < 2 → ρ (b + 2 * i + m) = a i m ∧ σ (b + 2 * i + m) = fun _ => 0) → wo_B G ρ σ b (un_rows G a n) ∧ (un_rows G a n).length = 2 * n
  | 0, _ => ⟨wo_nil, rfl⟩
  | n + 1, h => by
    obtain ⟨h1, h2⟩ := wo_rows (n := n) (fun i hi => h i (by omega))
    obtain ⟨h3, h4⟩ := h n (by omega)
    exact ⟨wo_app h1 (by rw [h2]) (wo_row h3 h4), by rw [un_rows, List.length_append, h2]; show 2 * n + 2 = _; omega⟩
end
def wo_rho (h0 q1 q23 q24 : Nat) (aR a5 a11 a17 aP aX aF : Nat → Nat) (ar ai : Nat → Nat → Nat) (m : Nat) (b ext : Nat → Nat) : Nat → Nat := fun k =>
  if k < 1 then h0 else if k < 2 then q1 else if k < 5 then aR (k - 2) else if k < 11 then a5 (k - 5) else if k < 17 then a11 (k - 11) else if k < 23 then a17 (k - 17) else if k < 24 then q23 else if k < 25 then q24 else if k < 171 then aP (k - 25) else if k < 173 then aX (k - 171) else if k < 174 then aF (k - 173) else if k < 190 then ar ((k - 174) / 2) ((k - 174) % 2) else if k < 202 then ai ((k - 190) / 6) ((k - 190) % 6) else if k < 203 then m else if k < 211 then b (k - 203) else ext k
theorem wo_s174 : ∀ i, i < 8 → vm_sh (174 + 2 * i) = (4, 4, [some (174 + 2 * i + 1)]) ∧ vm_sh (174 + 2 * i + 1) = (9, 40, []) := by decide +kernel
set_option maxHeartbeats 400000 in
theorem wo_list (G : un_G) (h0 q1 q23 q24 : Nat) (aR a5 a11 a17 aP aX aF : Nat → Nat) (ar ai : Nat → Nat → Nat) (m : Nat) (b ext : Nat → Nat) : ∃ ρ : Nat → Nat, ρ 0 = h0 ∧ ρ 202 = m ∧ (∀ k, 211 ≤ k → ρ k = ext k) ∧ un_all G h0 q1 q23 q24 aR a5 a11 a17 aP aX aF ar ai ++ un_model G m b = vm_ws (wo_V G ρ) wo_S := by
  obtain ⟨ρ, hρ⟩ : ∃ ρ, ρ = wo_rho h0 q1 q23 q24 aR a5 a11 a17 aP aX aF ar ai m b ext := ⟨_, rfl⟩
  have e : ∀ k, ρ k = wo_rho h0 q1 q23 q24 aR a5 a11 a17 aP aX aF ar ai m b ext k := fun k => congrFun hρ k
  have c0 : ρ 0 = h0 := e 0
  have c1 : ρ 1 = q1 := e 1
  have c2 : ρ 2 = aR 0 := e 2
  have c3 : ρ 3 = aR 1 := e 3
  have c4 : ρ 4 = aR 2 := e 4
  have p5 : ∀ i, i < 6 → ρ (5 + i) = a5 i := fun i hi => by
    rw [e, wo_rho, if_neg (by omega), if_neg (by omega), if_neg (by omega), if_pos (by omega), Nat.add_sub_cancel_left]
  have p11 : ∀ i, i < 6 → ρ (11 + i) = a11 i := fun i hi => by
    rw [e, wo_rho, if_neg (by omega), if_neg (by omega), if_neg (by omega), if_neg (by omega), if_pos (by omega), Nat.add_sub_cancel_left]
  have p17 : ∀ i, i < 6 → ρ (17 + i) = a17 i := fun i hi => by
    rw [e, wo_rho, if_neg (by omega), if_neg (by omega), if_neg (by omega), if_neg (by omega), if_neg (by omega), if_pos (by omega), Nat.add_sub_cancel_left]
  have c23 : ρ 23 = q23 := e 23
  have c24 : ρ 24 = q24 := e 24
  have pP : ∀ i, i < 146 → ρ (25 + i) = aP i := fun i hi => by
    rw [e, wo_rho, if_neg (by omega), if_neg (by omega), if_neg (by omega), if_neg (by omega), if_neg (by omega), if_neg (by omega), if_neg (by omega), if_neg (by omega), if_pos (by omega), Nat.add_sub_cancel_left]
  have c171 : ρ 171 = aX 0 := e 171
  have c172 : ρ 172 = aX 1 := e 172
  have c173 : ρ 173 = aF 0 := e 173
  have pr : ∀ i, i < 8 → ∀ j, j < 2 → ρ (174 + 2 * i + j) = ar i j := fun i hi j hj => by
    rw [e, wo_rho, if_neg (by omega), if_neg (by omega), if_neg (by omega), if_neg (by omega), if_neg (by omega), if_neg (by omega), if_neg (by omega), if_neg (by omega), if_neg (by omega), if_neg (by omega), if_neg (by omega), if_pos (by omega), show (174 + 2 * i + j - 174) / 2 = i by omega, show (174 + 2 * i + j - 174) % 2 = j by omega]
  have pi : ∀ i, i < 2 → ∀ j, j < 6 → ρ (190 + 6 * i + j) = ai i j := fun i hi j hj => by
    rw [e, wo_rho, if_neg (by omega), if_neg (by omega), if_neg (by omega), if_neg (by omega), if_neg (by omega), if_neg (by omega), if_neg (by omega), if_neg (by omega), if_neg (by omega), if_neg (by omega), if_neg (by omega), if_neg (by omega), if_pos (by omega), show (190 + 6 * i + j - 190) / 6 = i by omega, show (190 + 6 * i + j - 190) % 6 = j by omega]
  have c202 : ρ 202 = m := e 202
  have pb : ∀ i, i < 8 → ρ (203 + i) = b i := fun i hi => by
    rw [e, wo_rho, if_neg (by omega), if_neg (by omega), if_neg (by omega), if_neg (by omega), if_neg (by omega), if_neg (by omega), if_neg (by omega), if_neg (by omega), if_neg (by omega), if_neg (by omega), if_neg (by omega), if_neg (by omega), if_neg (by omega), if_neg (by omega), if_pos (by omega), Nat.add_sub_cancel_left]
  have px : ∀ k, 211 ≤ k → ρ k = ext k := fun k hk => by
    rw [e, wo_rho, if_neg (by omega), if_neg (by omega), if_neg (by omega), if_neg (by omega), if_neg (by omega), if_neg (by omega), if_neg (by omega), if_neg (by omega), if_neg (by omega), if_neg (by omega), if_neg (by omega), if_neg (by omega), if_neg (by omega), if_neg (by omega), if_neg (by omega)]
  refine ⟨ρ, c0, c202, px, ?_⟩
  clear e hρ px
  obtain ⟨w1, l1⟩ := wo_paths (G := G) (σ := wo_S) (b := 27) (n := 24) (ρ := ρ) (a := fun j m => aP (2 + 6 * j + m)) (fun i hi => ⟨pathB i hi, fun j hj => ⟨by rw [show 27 + 6 * i + j = 25 + (2 + 6 * i + j) by omega, pP _ (by omega)], wo_S0 (by omega) (by omega)⟩⟩)
  obtain ⟨w2, l2⟩ := wo_rows (G := G) (σ := wo_S) (b := 174) (n := 8) (ρ := ρ) (a := ar) (fun i hi => ⟨wo_s174 i hi, fun j hj => ⟨pr i hi j hj, wo_S0 (by omega) (by omega)⟩⟩)
  obtain ⟨w3, l3⟩ := wo_paths (G := G) (σ := wo_S) (b := 190) (n := 2) (ρ := ρ) (a := ai) (fun i hi => ⟨pathI i hi, fun j hj => ⟨pi i hi j hj, wo_S0 (by omega) (by omega)⟩⟩)
  have w5 := wo_path (G := G) (σ := wo_S) (ρ := ρ) (a := a5) path5 (fun i hi => ⟨p5 i hi, wo_S0 (by omega) (by omega)⟩)
  have w11 := wo_path (G := G) (σ := wo_S) (ρ := ρ) (a := a11) path11 (fun i hi => ⟨p11 i hi, wo_S0 (by omega) (by omega)⟩)
  have w17 := wo_path (G := G) (σ := wo_S) (ρ := ρ) (a := a17) path17 (fun i hi => ⟨p17 i hi, wo_S0 (by omega) (by omega)⟩)
  have z0 : wo_S 0 = fun _ => 0 := wo_S0 (by decide) (by decide)
  have wM : wo_B G ρ wo_S 202 (un_model G m b) := by
    refine wo_cons (wo_obj sh_202 (by decide) c202 ?_) (wo_cons (wo_int sh_203 (by decide) (by decide) (pb 0 (by decide)) (wo_S0 (by decide) (by decide))) (wo_cons (wo_int sh_204 (by decide) (by decide) (pb 1 (by decide)) (wo_S0 (by decide) (by decide))) (wo_cons (wo_int sh_205 (by decide) (by decide) (pb 2 (by decide)) (wo_S0 (by decide) (by decide))) (wo_cons (wo_int sh_206 (by decide) (by decide) (pb 3 (by decide)) rfl) (wo_cons (wo_int sh_207 (by decide) (by decide) (pb 4 (by decide)) (wo_S0 (by decide) (by decide))) (wo_cons (wo_int sh_208 (by decide) (by decide) (pb 5 (by decide)) (wo_S0 (by decide) (by decide))) (wo_cons (wo_int sh_209 (by decide) (by decide) (pb 6 (by decide)) (wo_S0 (by decide) (by decide))) (wo_cons (wo_int sh_210 (by decide) (by decide) (pb 7 (by decide)) (wo_S0 (by decide) (by decide))) wo_nil))))))))
    rw [wo_S0 (k := 202) (by decide) (by decide), ← pb 0 (by decide), ← pb 1 (by decide), ← pb 2 (by decide), ← pb 3 (by decide), ← pb 4 (by decide), ← pb 5 (by decide), ← pb 6 (by decide), ← pb 7 (by decide)]
    rfl
  refine wo_end (wo_app (b' := 202) ?_ ?_ wM) ?_
  · refine wo_cons (wo_obj sh_0 (by decide) c0 ?_) (wo_cons (wo_ref sh_1 (by decide) c1 (wo_rf (fun i hi => pr i hi 0 (by decide)))) ?_)
    · rw [z0, ← c1, ← c2, ← p5 0 (by decide), ← p11 0 (by decide), ← p17 0 (by decide), ← c23, ← c24, ← pP 0 (by decide), ← c171, ← c173]
      rfl
    refine wo_app (b' := 5) (wo_cons (wo_obj sh_2 (by decide) c2 ?_) (wo_cons (wo_obj sh_3 (by decide) c3 ?_) (wo_cons (wo_int sh_4 (by decide) (by decide) c4 (wo_S0 (by decide) (by decide))) wo_nil))) rfl ?_
    · rw [wo_S0 (k := 2) (by decide) (by decide), ← c3]
      rfl
    · rw [wo_S0 (k := 3) (by decide) (by decide), ← c4]
      rfl
    refine wo_app (b' := 11) w5 rfl (wo_app (b' := 17) w11 rfl (wo_app (b' := 23) w17 rfl ?_))
    refine wo_cons (wo_ref sh_23 (by decide) c23 (wo_rf (g := fun i => 190 + 6 * i) (n := 2) (fun i hi => pi i hi 0 (by decide)))) (wo_cons (wo_int sh_24 (by decide) (by decide) c24 (wo_S0 (by decide) (by decide))) ?_)
    refine wo_app (b' := 171) (wo_cons (wo_obj sh_25 (by decide) (pP 0 (by decide)) ?_) (wo_cons (wo_ref sh_26 (by decide) (pP 1 (by decide)) (wo_rf (fun i hi => by rw [show 27 + 6 * i = 25 + (2 + 6 * i) by omega, pP _ (by omega)]; rfl))) w1)) (by rw [un_past, List.length_cons, List.length_cons, l1]) ?_
    · rw [wo_S0 (k := 25) (by decide) (by decide), ← pP 1 (by decide)]
      rfl
    refine wo_app (b' := 173) (wo_cons (wo_obj sh_171 (by decide) c171 ?_) (wo_cons (wo_int sh_172 (by decide) (by decide) c172 (wo_S0 (by decide) (by decide))) wo_nil)) rfl ?_
    · rw [wo_S0 (k := 171) (by decide) (by decide), ← c172]
      rfl
    refine wo_app (b' := 174) (wo_cons (wo_obj sh_173 (by decide) c173 rfl) wo_nil) rfl ?_
    exact wo_app w2 (by rw [l2]) w3
  · unfold un_all un_past
    simp only [List.length_append, List.length_cons, l1, l2, l3]
    rfl
  · unfold un_all un_past
    simp only [List.length_append, List.length_cons, l1, l2, l3]
    rfl
