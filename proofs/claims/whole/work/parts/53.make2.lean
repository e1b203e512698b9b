/-- an object at its place, the cells made behind it -/
abbrev un_O (w : va_W) (h0 ci : Nat) (fs : List Value) (L : va_W) : va_W := w ++ ((h0, .inr (ci, fs)) :: L)
theorem un_O_at {w : va_W} {h0 ci : Nat} {fs : List Value} {L : va_W} : (un_O w h0 ci fs L)[w.length]? = some (h0, .inr (ci, fs)) := by simp
theorem un_O_set {w : va_W} {h0 ci : Nat} {fs gs : List Value} {L : va_W} : (un_O w h0 ci fs L).set w.length (h0, .inr (ci, gs)) = un_O w h0 ci gs L := by simp
theorem un_O_app {w : va_W} {h0 ci : Nat} {fs : List Value} {L L2 : va_W} : un_O w h0 ci fs L ++ L2 = un_O w h0 ci fs (L ++ L2) := by simp
theorem na_9 {N : Nat} (cA : ClassId) : vp_cell cA (N, .inl (fun _ => 0)) = arrV cA N (fun _ => defaultValue .int) := by rw [vp_cell_i]; rfl
theorem na_10 {N : Nat} (cA : ClassId) : vp_cell cA (N, .inl (fun _ => 0)) = arrV cA N (fun _ => defaultValue .char) := by rw [vp_cell_i]; rfl
theorem na_11 {N : Nat} (cA : ClassId) : vp_cell cA (N, .inl (fun _ => 0)) = arrV cA N (fun _ => defaultValue .boolean) := by rw [vp_cell_i]; rfl
theorem oi_1 : Cond.instanceMethod Lib.objectInit ∈ vm_wsA := vm_mem 70 (by decide +kernel) (by decide +kernel)
theorem oi_2 : Cond.code Lib.objectInit ⟨#[0xb1]⟩ 1 none ∈ vm_wsA := vm_mem 71 (by decide +kernel) (by decide +kernel)
/-- a constructor's contract: behind it stands X a, the cells that it has made with the object -/
def un_RC (G : un_G) (d mc ms : Nat) (y : vm_Y) (As : List Value) (fr : va_E) (w : va_W) (h0 : Nat) (X : (Nat → Nat) → va_W) : Prop := un_RV G d mc ms y (.ref h0 :: As) (w ++ [(h0, fr)]) (fun ws' => ∃ a : Nat → Nat, a 0 = h0 ∧ ws' = w ++ X a)
section
variable {G : un_G} {C : vm_C} {cc : ByteArray} {own C' : String} {T : u_T} {N ci nL d mc ms pc idx a k n h0 : Nat} {ll : List (Nat × Value)} {st : List Value} {w L : va_W} {fs : List Value}
theorem uo_put {ty0 : Nat → FieldType} {v : Value} (j : Nat) (F : un_F G C cc own nL d mc ms) (hin : ∀ w ∈ u_ws C' T N, w ∈ vm_wsA) (hty : ∀ k, k < N → parseFieldDescriptor (T k).2.2.1 = some (ty0 k)) (hnm : ∀ a, a < N → ∀ b, b < N → a ≠ b → (T a).2.1 ≠ (T b).2.1) (hc : vwCl[ci]? = some (C', T, N)) (hj : j < N) (hT : (T j).1 = C') (hw : Cond.fieldLink own idx C' (T j).2.1 (T j).2.2.1 ∈ vm_wsA) (hfin : (T j).2.2.2 = false) (hn : narrow (ty0 j) v = v) (hfit : fits (ty0 j) v = true) (hl0 : j < fs.length) (dd : decode cc pc = .ok (.putfield idx, 3))
    (kk : un_Ex G C nL (pc + 3) ll st (un_O w h0 ci (fs.set j v) L) k n) : un_Ex G C nL pc ll (v :: .ref h0 :: st) (un_O w h0 ci fs L) k n :=
  un_put w.length j F hin hty hnm hc hj hT hw hfin un_O_at hn hfit hl0 dd (by rw [un_O_set]; exact kk)
theorem uo_putF {ty0 : Nat → FieldType} {v : Value} (j : Nat) (F : un_F G C cc own nL d mc ms) (hnam : (vm_cM C).name = "<init>") (hin : ∀ w ∈ u_ws C' T N, w ∈ vm_wsA) (hty : ∀ k, k < N → parseFieldDescriptor (T k).2.2.1 = some (ty0 k)) (hnm : ∀ a, a < N → ∀ b, b < N → a ≠ b → (T a).2.1 ≠ (T b).2.1) (hc : vwCl[ci]? = some (C', T, N)) (hj : j < N) (hT : (T j).1 = C') (hown : C' = own) (hw : Cond.fieldLink own idx C' (T j).2.1 (T j).2.2.1 ∈ vm_wsA) (hfin : (T j).2.2.2 = true) (hn : narrow (ty0 j) v = v) (hfit : fits (ty0 j) v = true) (hl0 : j < fs.length) (dd : decode cc pc = .ok (.putfield idx, 3))
    (kk : un_Ex G C nL (pc + 3) ll st (un_O w h0 ci (fs.set j v) L) k n) : un_Ex G C nL pc ll (v :: .ref h0 :: st) (un_O w h0 ci fs L) k n :=
  un_putF w.length j F hnam hin hty hnm hc hj hT hown hw hfin un_O_at hn hfit hl0 dd (by rw [un_O_set]; exact kk)
theorem uo_get {v : Value} (j : Nat) (F : un_F G C cc own nL d mc ms) (hin : ∀ w ∈ u_ws C' T N, w ∈ vm_wsA) (hc : vwCl[ci]? = some (C', T, N)) (hj : j < N) (hT : (T j).1 = C') (hw : Cond.fieldLink own idx C' (T j).2.1 (T j).2.2.1 ∈ vm_wsA) (hv : fs[j]? = some v) (dd : decode cc pc = .ok (.getfield idx, 3))
    (kk : un_Ex G C nL (pc + 3) ll (v :: st) (un_O w h0 ci fs L) k n) : un_Ex G C nL pc ll (.ref h0 :: st) (un_O w h0 ci fs L) k n :=
  un_get w.length j F hin hc hj hT hw un_O_at hv dd kk
theorem uo_newa {atype : ArrayType} {ty : FieldType} {v : Int32} (t0 kd N' : Nat) (F : un_F G C cc own nL d mc ms) (harr : Cond.arrayClass (newarray.typeOf atype) ∈ vm_wsA) (hty : newarray.typeOf atype = ty) (ht : (un_tys G)[t0]? = some (G.2.2.1 kd, ty)) (ha : ∀ cA : ClassId, vp_cell cA (N', .inl (fun _ => 0)) = arrV cA N' (fun _ => defaultValue ty)) (hn : ¬ v < 0) (hN : v.toNatClampNeg = N') (hb : N' * componentBytes ty ≤ 536870912) (hc : k + 1 ≤ mc) (hs : n + N' ≤ ms) (dd : decode cc pc = .ok (.newarray atype, 2))
    (kk : ∀ q, un_Ex G C nL (pc + 2) ll (.ref q :: st) (un_O w h0 ci fs (L ++ [(q, .inl (G.2.2.1 kd, N', .inl (fun _ => 0)))])) (k + 1) (n + N')) : un_Ex G C nL pc ll (.int v :: st) (un_O w h0 ci fs L) k n :=
  un_newa t0 kd N' F harr hty ht ha hn hN hb hc hs dd (fun q => by rw [un_O_app]; exact kk q)
theorem uo_newq {C1 : String} {v : Int32} (t0 kd N' : Nat) (F : un_F G C cc own nL d mc ms) (hw : Cond.classLink own idx C1 ∈ vm_wsA) (hover : va_AO C1 (vm_cs C)) (ht : (un_tys G)[t0]? = some (G.2.2.1 kd, .object C1)) (hn : ¬ v < 0) (hN : v.toNatClampNeg = N') (hb : N' * 4 ≤ 536870912) (hc : k + 1 ≤ mc) (hs : n + N' ≤ ms) (dd : decode cc pc = .ok (.anewarray idx, 3))
    (kk : ∀ q, un_Ex G C nL (pc + 3) ll (.ref q :: st) (un_O w h0 ci fs (L ++ [(q, .inl (G.2.2.1 kd, N', .inr (.inr (.inr (.inr (fun _ => none))))))])) (k + 1) (n + N')) : un_Ex G C nL pc ll (.int v :: st) (un_O w h0 ci fs L) k n :=
  un_newq t0 kd N' F hw hover ht hn hN hb hc hs dd (fun q => by rw [un_O_app]; exact kk q)
theorem uo_new {ty : Nat → FieldType} {ci2 : Nat} {fs2 : List Value} (F : un_F G C cc own nL d mc ms) (hin : ∀ w ∈ u_ws C' T N, w ∈ vm_wsA) (hty : ∀ k, k < N → parseFieldDescriptor (T k).2.2.1 = some (ty k)) (hc : vwCl[ci2]? = some (C', T, N)) (h1 : Cond.classLink own idx C' ∈ vm_wsA) (h2 : Cond.instantiable C' N ∈ vm_wsA) (h3 : Cond.initialized C' ∈ vm_wsA) (hfs : ∀ j, j < N → defaultValue (ty j) = vp_V fs2 j) (hcl : k + 1 ≤ mc) (hs : n + N ≤ ms) (dd : decode cc pc = .ok (.new idx, 3))
    (kk : ∀ q, un_Ex G C nL (pc + 3) ll (.ref q :: st) (un_O w h0 ci fs (L ++ [(q, .inr (ci2, fs2))])) (k + 1) (n + N)) : un_Ex G C nL pc ll st (un_O w h0 ci fs L) k n :=
  un_new F hin hty hc h1 h2 h3 hfs hcl hs dd (fun q => by rw [un_O_app]; exact kk q)
theorem uo_ci {y : vm_Y} {d' mc' ms' m q : Nat} {As st0 : List Value} {fr : va_E} {X : (Nat → Nat) → va_W} (hk : un_kI y m) (hw : Cond.methodLink own idx y.1 ∈ vm_wsA) (F : un_F G C cc own nL d mc ms) (hM : un_RC G d' mc' ms' y As fr (un_O w h0 ci fs L) q X) (hm : As.length = m) (hd : d' < d) (hst : As.reverse ++ .ref q :: st = st0) (hcat : (st.map fun v => v.category).sum ≤ 8) (hc : k + mc' ≤ mc) (hs : n + ms' ≤ ms) (dd : decode cc pc = .ok (.invokespecial idx, 3))
    (kk : ∀ a : Nat → Nat, a 0 = q → un_Ex G C nL (pc + 3) ll st (un_O w h0 ci fs (L ++ X a)) (k + mc') (n + ms')) : un_Ex G C nL pc ll st0 (un_O w h0 ci fs (L ++ [(q, fr)])) k n := by
  rw [← un_O_app]
  refine un_ci hk hw F hM hm hd hst hcat hc hs dd (fun ws' h => ?_)
  obtain ⟨a, h1, rfl⟩ := h
  rw [un_O_app]
  exact kk a h1
theorem uo_cn {y : vm_Y} {d' mc' ms' m q : Nat} {As st0 : List Value} {fr : va_E} {X : (Nat → Nat) → va_W} (hk : un_kI y m) (F : un_F G C cc own nL d mc ms) (hw : va_Nw (.methodLinkNest own idx y.1 "ErrandLanes") (vm_cs C)) (hM : un_RC G d' mc' ms' y As fr (un_O w h0 ci fs L) q X) (hm : As.length = m) (hd : d' < d) (hst : As.reverse ++ .ref q :: st = st0) (hcat : (st.map fun v => v.category).sum ≤ 8) (hc : k + mc' ≤ mc) (hs : n + ms' ≤ ms) (dd : decode cc pc = .ok (.invokespecial idx, 3))
    (kk : ∀ a : Nat → Nat, a 0 = q → un_Ex G C nL (pc + 3) ll st (un_O w h0 ci fs (L ++ X a)) (k + mc') (n + ms')) : un_Ex G C nL pc ll st0 (un_O w h0 ci fs (L ++ [(q, fr)])) k n := by
  rw [← un_O_app]
  refine un_cn hk F hw hM hm hd hst hcat hc hs dd (fun ws' h => ?_)
  obtain ⟨a, h1, rfl⟩ := h
  rw [un_O_app]
  exact kk a h1
end
theorem df_0 : ∀ j, j < 2 → defaultValue (tyX0 j) = vp_V [.int 0, .int 0] j := by
  intro j hj
  rcases (show j = 0 ∨ j = 1 by omega) with rfl | rfl <;> rfl
theorem kI_X0 : un_kI mX0_init 0 := ⟨rfl, rfl, ⟨by decide +kernel, by decide +kernel, by decide +kernel⟩, by decide +kernel, (vm_mem 54 (by decide +kernel) (by decide +kernel)), (vm_mem 210 (by decide +kernel) (by decide +kernel)), (vm_mem 211 (by decide +kernel) (by decide +kernel))⟩
theorem df_1 : ∀ j, j < 3 → defaultValue (tyX1 j) = vp_V [.null, .int 0, .int 0] j := by
  intro j hj
  rcases (show j = 0 ∨ j = 1 ∨ j = 2 by omega) with rfl | rfl | rfl <;> rfl
theorem kI_X1 : un_kI mX1_init 0 := ⟨rfl, rfl, ⟨by decide +kernel, by decide +kernel, by decide +kernel⟩, by decide +kernel, (vm_mem 52 (by decide +kernel) (by decide +kernel)), (vm_mem 175 (by decide +kernel) (by decide +kernel)), (vm_mem 176 (by decide +kernel) (by decide +kernel))⟩
theorem df_2 : ∀ j, j < 10 → defaultValue (tyX2 j) = vp_V [.null, .null, .null, .null, .null, .int 0, .int 0, .int 0, .int 0, .int 0] j := by
  intro j hj
  rcases (show j = 0 ∨ j = 1 ∨ j = 2 ∨ j = 3 ∨ j = 4 ∨ j = 5 ∨ j = 6 ∨ j = 7 ∨ j = 8 ∨ j = 9 by omega) with rfl | rfl | rfl | rfl | rfl | rfl | rfl | rfl | rfl | rfl <;> rfl
theorem kI_X2 : un_kI mX2_init 0 := ⟨rfl, rfl, ⟨by decide +kernel, by decide +kernel, by decide +kernel⟩, by decide +kernel, (vm_mem 51 (by decide +kernel) (by decide +kernel)), (vm_mem 122 (by decide +kernel) (by decide +kernel)), (vm_mem 123 (by decide +kernel) (by decide +kernel))⟩
theorem df_3 : ∀ j, j < 6 → defaultValue (tyX3 j) = vp_V [.null, .int 0, .int 0, .int 0, .int 0, .int 0] j := by
  intro j hj
  rcases (show j = 0 ∨ j = 1 ∨ j = 2 ∨ j = 3 ∨ j = 4 ∨ j = 5 by omega) with rfl | rfl | rfl | rfl | rfl | rfl <;> rfl
theorem kI_X3 : un_kI mX3_init 0 := ⟨rfl, rfl, ⟨by decide +kernel, by decide +kernel, by decide +kernel⟩, by decide +kernel, (vm_mem 49 (by decide +kernel) (by decide +kernel)), (vm_mem 77 (by decide +kernel) (by decide +kernel)), (vm_mem 78 (by decide +kernel) (by decide +kernel))⟩
theorem df_4 : ∀ j, j < 4 → defaultValue (tyX4 j) = vp_V [.null, .int 0, .int 0, .int 0] j := by
  intro j hj
  rcases (show j = 0 ∨ j = 1 ∨ j = 2 ∨ j = 3 by omega) with rfl | rfl | rfl | rfl <;> rfl
theorem kI_X4 : un_kI mX4_init 0 := ⟨rfl, rfl, ⟨by decide +kernel, by decide +kernel, by decide +kernel⟩, by decide +kernel, (vm_mem 55 (by decide +kernel) (by decide +kernel)), (vm_mem 223 (by decide +kernel) (by decide +kernel)), (vm_mem 224 (by decide +kernel) (by decide +kernel))⟩
theorem df_5 : ∀ j, j < 2 → defaultValue (tyX5 j) = vp_V [.null, .int 0] j := by
  intro j hj
  rcases (show j = 0 ∨ j = 1 by omega) with rfl | rfl <;> rfl
theorem kI_X5 : un_kI mX5_init 0 := ⟨rfl, rfl, ⟨by decide +kernel, by decide +kernel, by decide +kernel⟩, by decide +kernel, (vm_mem 50 (by decide +kernel) (by decide +kernel)), (vm_mem 83 (by decide +kernel) (by decide +kernel)), (vm_mem 84 (by decide +kernel) (by decide +kernel))⟩
theorem df_6 : ∀ j, j < 2 → defaultValue (tyX6 j) = vp_V [.null, .int 0] j := by
  intro j hj
  rcases (show j = 0 ∨ j = 1 by omega) with rfl | rfl <;> rfl
theorem kI_X6 : un_kI mX6_init 0 := ⟨rfl, rfl, ⟨by decide +kernel, by decide +kernel, by decide +kernel⟩, by decide +kernel, (vm_mem 53 (by decide +kernel) (by decide +kernel)), (vm_mem 195 (by decide +kernel) (by decide +kernel)), (vm_mem 196 (by decide +kernel) (by decide +kernel))⟩
theorem df_7 : ∀ j, j < 13 → defaultValue (tyX7 j) = vp_V [.null, .null, .null, .null, .null, .null, .null, .null, .null, .null, .int 0, .int 0, .int 0] j := by
  intro j hj
  rcases (show j = 0 ∨ j = 1 ∨ j = 2 ∨ j = 3 ∨ j = 4 ∨ j = 5 ∨ j = 6 ∨ j = 7 ∨ j = 8 ∨ j = 9 ∨ j = 10 ∨ j = 11 ∨ j = 12 by omega) with rfl | rfl | rfl | rfl | rfl | rfl | rfl | rfl | rfl | rfl | rfl | rfl | rfl <;> rfl
theorem kI_X7 : un_kI mX7_init 0 := ⟨rfl, rfl, ⟨by decide +kernel, by decide +kernel, by decide +kernel⟩, by decide +kernel, (vm_mem 48 (by decide +kernel) (by decide +kernel)), (vm_mem 67 (by decide +kernel) (by decide +kernel)), (vm_mem 68 (by decide +kernel) (by decide +kernel))⟩
theorem df_8 : ∀ j, j < 21 → defaultValue (tyX8 j) = vp_V [.null, .null, .int 0, .null, .int 0, .int 0, .int 0, .null, .null, .null, .null, .int 0, .int 0, .int 0, .int 0, .int 0, .int 0, .null, .int 0, .int 0, .int 0] j := by
  intro j hj
  rcases (show j = 0 ∨ j = 1 ∨ j = 2 ∨ j = 3 ∨ j = 4 ∨ j = 5 ∨ j = 6 ∨ j = 7 ∨ j = 8 ∨ j = 9 ∨ j = 10 ∨ j = 11 ∨ j = 12 ∨ j = 13 ∨ j = 14 ∨ j = 15 ∨ j = 16 ∨ j = 17 ∨ j = 18 ∨ j = 19 ∨ j = 20 by omega) with rfl | rfl | rfl | rfl | rfl | rfl | rfl | rfl | rfl | rfl | rfl | rfl | rfl | rfl | rfl | rfl | rfl | rfl | rfl | rfl | rfl <;> rfl
theorem kI_X8 : un_kI mX8_init 0 := ⟨rfl, rfl, ⟨by decide +kernel, by decide +kernel, by decide +kernel⟩, by decide +kernel, (vm_mem 56 (by decide +kernel) (by decide +kernel)), (vm_mem 685 (by decide +kernel) (by decide +kernel)), (vm_mem 686 (by decide +kernel) (by decide +kernel))⟩
def un_fits (a : Nat → Nat) : va_W := [(a 0, .inr (0, [.int 0, .int (-1000000)]))]
def un_tape (G : un_G) (a : Nat → Nat) : va_W := [(a 0, .inr (5, [.ref (a 1), .int 0])), (a 1, .inl (G.2.2.1 10, 400, .inl (fun _ => 0)))]
def un_trace (G : un_G) (a : Nat → Nat) : va_W := [(a 0, .inr (6, [.ref (a 1), .int 0])), (a 1, .inl (G.2.2.1 9, 16, .inl (fun _ => 0)))]
def un_row (G : un_G) (a : Nat → Nat) : va_W := [(a 0, .inr (4, [.ref (a 1), .int 0, .int 0, .int 0])), (a 1, .inl (G.2.2.1 9, 40, .inl (fun _ => 0)))]
def un_read (G : un_G) (a : Nat → Nat) : va_W := [(a 0, .inr (3, [.ref (a 1), .int 0, .int 0, .int 0, .int 0, .int 0])), (a 1, .inr (5, [.ref (a 2), .int 0])), (a 2, .inl (G.2.2.1 10, 400, .inl (fun _ => 0)))]
def un_path (G : un_G) (a : Nat → Nat) : va_W := [(a 0, .inr (2, [.ref (a 1), .ref (a 2), .ref (a 3), .ref (a 4), .ref (a 5), .int 0, .int 0, .int 0, .int 0, .int 0])), (a 1, .inl (G.2.2.1 9, 6, .inl (fun _ => 0))), (a 2, .inl (G.2.2.1 9, 6, .inl (fun _ => 0))), (a 3, .inl (G.2.2.1 9, 6, .inl (fun _ => 0))), (a 4, .inl (G.2.2.1 9, 6, .inl (fun _ => 0))), (a 5, .inl (G.2.2.1 9, 6, .inl (fun _ => 0)))]
def un_ad (l : List Nat) : Nat → Nat := fun i => l.getD i 0
set_option maxHeartbeats 400000 in
set_option maxRecDepth 100000 in
theorem n_fits {G : un_G} (w : va_W) (h0 : Nat) : un_RC G 1 0 0 mX0_init [] (.inr (0, [.int 0, .int 0])) w h0 (un_fits) := by
  refine un_init (y := mX0_init) (args := [.ref h0]) (by decide) rfl (Nat.le_of_ble_eq_true rfl) rfl (fun C F hnam K => ?_)
  have F : un_F G C cX0_init RX0 _ 1 0 0 := F
  show un_Ex G C _ 0 [(0, .ref h0)] [] (un_O w h0 0 [.int 0, .int 0] []) 0 0
  refine un_aload F 0 dX0_init_0 rfl ?_
  refine un_obj F (vm_mem 212 (by decide +kernel) (by decide +kernel)) oi_1 oi_2 (by decide) dX0_init_1 (Nat.le_of_ble_eq_true rfl) ?_
  refine un_aload F 0 dX0_init_4 rfl ?_
  refine un_iconst F (nI 0) dX0_init_5 (by decide) ?_
  refine uo_put 0 F inX0 tyX0_ok nmX0 rfl (by decide) rfl (vm_mem 214 (by decide +kernel) (by decide +kernel)) rfl rfl rfl (by simp) dX0_init_6 ?_
  refine un_aload F 0 dX0_init_9 rfl ?_
  refine un_ldc F dX0_init_10 wX0_15 ?_
  refine uo_put 1 F inX0 tyX0_ok nmX0 rfl (by decide) rfl (vm_mem 215 (by decide +kernel) (by decide +kernel)) rfl rfl rfl (by simp) dX0_init_12 ?_
  exact K _ _ _ ⟨un_ad [h0], rfl, rfl⟩ dX0_init_15
set_option maxHeartbeats 400000 in
set_option maxRecDepth 100000 in
theorem n_tape {G : un_G} (w : va_W) (h0 : Nat) : un_RC G 1 1 400 mX5_init [] (.inr (5, [.null, .int 0])) w h0 (un_tape G) := by
  refine un_init (y := mX5_init) (args := [.ref h0]) (by decide) rfl (Nat.le_of_ble_eq_true rfl) rfl (fun C F hnam K => ?_)
  have F : un_F G C cX5_init RX5 _ 1 1 400 := F
  show un_Ex G C _ 0 [(0, .ref h0)] [] (un_O w h0 5 [.null, .int 0] []) 0 0
  refine un_aload F 0 dX5_init_0 rfl ?_
  refine un_obj F (vm_mem 85 (by decide +kernel) (by decide +kernel)) oi_1 oi_2 (by decide) dX5_init_1 (Nat.le_of_ble_eq_true rfl) ?_
  refine un_aload F 0 dX5_init_4 rfl ?_
  refine un_sipush F (nI 400) dX5_init_5 (by decide) ?_
  refine uo_newa (ty := .char) 1 10 400 F (vm_mem 96 (by decide +kernel) (by decide +kernel)) rfl rfl na_10 (nI_pos (by omega)) (nI_clamp (by omega)) (Nat.le_of_ble_eq_true rfl) (Nat.le_of_ble_eq_true rfl) (Nat.le_of_ble_eq_true rfl) dX5_init_8 (fun q_8 => ?_)
  refine uo_putF 0 F hnam inX5 tyX5_ok nmX5 rfl (by decide) rfl rfl (vm_mem 86 (by decide +kernel) (by decide +kernel)) rfl rfl rfl (by simp) dX5_init_10 ?_
  refine un_aload F 0 dX5_init_13 rfl ?_
  refine un_iconst F (nI 0) dX5_init_14 (by decide) ?_
  refine uo_put 1 F inX5 tyX5_ok nmX5 rfl (by decide) rfl (vm_mem 88 (by decide +kernel) (by decide +kernel)) rfl rfl rfl (by simp) dX5_init_15 ?_
  exact K _ _ _ ⟨un_ad [h0, q_8], rfl, rfl⟩ dX5_init_18
set_option maxHeartbeats 400000 in
set_option maxRecDepth 100000 in
theorem n_trace {G : un_G} (w : va_W) (h0 : Nat) : un_RC G 1 1 16 mX6_init [] (.inr (6, [.null, .int 0])) w h0 (un_trace G) := by
  refine un_init (y := mX6_init) (args := [.ref h0]) (by decide) rfl (Nat.le_of_ble_eq_true rfl) rfl (fun C F hnam K => ?_)
  have F : un_F G C cX6_init RX6 _ 1 1 16 := F
  show un_Ex G C _ 0 [(0, .ref h0)] [] (un_O w h0 6 [.null, .int 0] []) 0 0
  refine un_aload F 0 dX6_init_0 rfl ?_
  refine un_obj F (vm_mem 197 (by decide +kernel) (by decide +kernel)) oi_1 oi_2 (by decide) dX6_init_1 (Nat.le_of_ble_eq_true rfl) ?_
  refine un_aload F 0 dX6_init_4 rfl ?_
  refine un_bipush F (nI 16) dX6_init_5 (by decide) ?_
  refine uo_newa (ty := .int) 0 9 16 F (vm_mem 170 (by decide +kernel) (by decide +kernel)) rfl rfl na_9 (nI_pos (by omega)) (nI_clamp (by omega)) (Nat.le_of_ble_eq_true rfl) (Nat.le_of_ble_eq_true rfl) (Nat.le_of_ble_eq_true rfl) dX6_init_7 (fun q_7 => ?_)
  refine uo_putF 0 F hnam inX6 tyX6_ok nmX6 rfl (by decide) rfl rfl (vm_mem 198 (by decide +kernel) (by decide +kernel)) rfl rfl rfl (by simp) dX6_init_9 ?_
  refine un_aload F 0 dX6_init_12 rfl ?_
  refine un_iconst F (nI 0) dX6_init_13 (by decide) ?_
  refine uo_put 1 F inX6 tyX6_ok nmX6 rfl (by decide) rfl (vm_mem 200 (by decide +kernel) (by decide +kernel)) rfl rfl rfl (by simp) dX6_init_14 ?_
  exact K _ _ _ ⟨un_ad [h0, q_7], rfl, rfl⟩ dX6_init_17
set_option maxHeartbeats 400000 in
set_option maxRecDepth 100000 in
theorem n_row {G : un_G} (w : va_W) (h0 : Nat) : un_RC G 1 1 40 mX4_init [] (.inr (4, [.null, .int 0, .int 0, .int 0])) w h0 (un_row G) := by
  refine un_init (y := mX4_init) (args := [.ref h0]) (by decide) rfl (Nat.le_of_ble_eq_true rfl) rfl (fun C F hnam K => ?_)
  have F : un_F G C cX4_init RX4 _ 1 1 40 := F
  show un_Ex G C _ 0 [(0, .ref h0)] [] (un_O w h0 4 [.null, .int 0, .int 0, .int 0] []) 0 0
  refine un_aload F 0 dX4_init_0 rfl ?_
  refine un_obj F (vm_mem 225 (by decide +kernel) (by decide +kernel)) oi_1 oi_2 (by decide) dX4_init_1 (Nat.le_of_ble_eq_true rfl) ?_
  refine un_aload F 0 dX4_init_4 rfl ?_
  refine un_bipush F (nI 40) dX4_init_5 (by decide) ?_
  refine uo_newa (ty := .int) 0 9 40 F (vm_mem 170 (by decide +kernel) (by decide +kernel)) rfl rfl na_9 (nI_pos (by omega)) (nI_clamp (by omega)) (Nat.le_of_ble_eq_true rfl) (Nat.le_of_ble_eq_true rfl) (Nat.le_of_ble_eq_true rfl) dX4_init_7 (fun q_7 => ?_)
  refine uo_putF 0 F hnam inX4 tyX4_ok nmX4 rfl (by decide) rfl rfl (vm_mem 226 (by decide +kernel) (by decide +kernel)) rfl rfl rfl (by simp) dX4_init_9 ?_
  refine un_aload F 0 dX4_init_12 rfl ?_
  refine un_iconst F (nI 0) dX4_init_13 (by decide) ?_
  refine uo_put 1 F inX4 tyX4_ok nmX4 rfl (by decide) rfl (vm_mem 229 (by decide +kernel) (by decide +kernel)) rfl rfl rfl (by simp) dX4_init_14 ?_
  refine un_aload F 0 dX4_init_17 rfl ?_
  refine un_iconst F (nI 0) dX4_init_18 (by decide) ?_
  refine uo_put 2 F inX4 tyX4_ok nmX4 rfl (by decide) rfl (vm_mem 231 (by decide +kernel) (by decide +kernel)) rfl rfl rfl (by simp) dX4_init_19 ?_
  refine un_aload F 0 dX4_init_22 rfl ?_
  refine un_iconst F (nI 0) dX4_init_23 (by decide) ?_
  refine uo_put 3 F inX4 tyX4_ok nmX4 rfl (by decide) rfl (vm_mem 233 (by decide +kernel) (by decide +kernel)) rfl rfl rfl (by simp) dX4_init_24 ?_
  exact K _ _ _ ⟨un_ad [h0, q_7], rfl, rfl⟩ dX4_init_27
set_option maxHeartbeats 400000 in
set_option maxRecDepth 100000 in
theorem n_path {G : un_G} (w : va_W) (h0 : Nat) : un_RC G 1 5 30 mX2_init [] (.inr (2, [.null, .null, .null, .null, .null, .int 0, .int 0, .int 0, .int 0, .int 0])) w h0 (un_path G) := by
  refine un_init (y := mX2_init) (args := [.ref h0]) (by decide) rfl (Nat.le_of_ble_eq_true rfl) rfl (fun C F hnam K => ?_)
  have F : un_F G C cX2_init RX2 _ 1 5 30 := F
  show un_Ex G C _ 0 [(0, .ref h0)] [] (un_O w h0 2 [.null, .null, .null, .null, .null, .int 0, .int 0, .int 0, .int 0, .int 0] []) 0 0
  refine un_aload F 0 dX2_init_0 rfl ?_
  refine un_obj F (vm_mem 124 (by decide +kernel) (by decide +kernel)) oi_1 oi_2 (by decide) dX2_init_1 (Nat.le_of_ble_eq_true rfl) ?_
  refine un_aload F 0 dX2_init_4 rfl ?_
  refine un_bipush F (nI 6) dX2_init_5 (by decide) ?_
  refine uo_newa (ty := .int) 0 9 6 F (vm_mem 170 (by decide +kernel) (by decide +kernel)) rfl rfl na_9 (nI_pos (by omega)) (nI_clamp (by omega)) (Nat.le_of_ble_eq_true rfl) (Nat.le_of_ble_eq_true rfl) (Nat.le_of_ble_eq_true rfl) dX2_init_7 (fun q_7 => ?_)
  refine uo_putF 0 F hnam inX2 tyX2_ok nmX2 rfl (by decide) rfl rfl (vm_mem 125 (by decide +kernel) (by decide +kernel)) rfl rfl rfl (by simp) dX2_init_9 ?_
  refine un_aload F 0 dX2_init_12 rfl ?_
  refine un_bipush F (nI 6) dX2_init_13 (by decide) ?_
  refine uo_newa (ty := .int) 0 9 6 F (vm_mem 170 (by decide +kernel) (by decide +kernel)) rfl rfl na_9 (nI_pos (by omega)) (nI_clamp (by omega)) (Nat.le_of_ble_eq_true rfl) (Nat.le_of_ble_eq_true rfl) (Nat.le_of_ble_eq_true rfl) dX2_init_15 (fun q_15 => ?_)
  refine uo_putF 1 F hnam inX2 tyX2_ok nmX2 rfl (by decide) rfl rfl (vm_mem 128 (by decide +kernel) (by decide +kernel)) rfl rfl rfl (by simp) dX2_init_17 ?_
  refine un_aload F 0 dX2_init_20 rfl ?_
  refine un_bipush F (nI 6) dX2_init_21 (by decide) ?_
  refine uo_newa (ty := .int) 0 9 6 F (vm_mem 170 (by decide +kernel) (by decide +kernel)) rfl rfl na_9 (nI_pos (by omega)) (nI_clamp (by omega)) (Nat.le_of_ble_eq_true rfl) (Nat.le_of_ble_eq_true rfl) (Nat.le_of_ble_eq_true rfl) dX2_init_23 (fun q_23 => ?_)
  refine uo_putF 2 F hnam inX2 tyX2_ok nmX2 rfl (by decide) rfl rfl (vm_mem 131 (by decide +kernel) (by decide +kernel)) rfl rfl rfl (by simp) dX2_init_25 ?_
  refine un_aload F 0 dX2_init_28 rfl ?_
  refine un_bipush F (nI 6) dX2_init_29 (by decide) ?_
  refine uo_newa (ty := .int) 0 9 6 F (vm_mem 170 (by decide +kernel) (by decide +kernel)) rfl rfl na_9 (nI_pos (by omega)) (nI_clamp (by omega)) (Nat.le_of_ble_eq_true rfl) (Nat.le_of_ble_eq_true rfl) (Nat.le_of_ble_eq_true rfl) dX2_init_31 (fun q_31 => ?_)
  refine uo_putF 3 F hnam inX2 tyX2_ok nmX2 rfl (by decide) rfl rfl (vm_mem 134 (by decide +kernel) (by decide +kernel)) rfl rfl rfl (by simp) dX2_init_33 ?_
  refine un_aload F 0 dX2_init_36 rfl ?_
  refine un_bipush F (nI 6) dX2_init_37 (by decide) ?_
  refine uo_newa (ty := .int) 0 9 6 F (vm_mem 170 (by decide +kernel) (by decide +kernel)) rfl rfl na_9 (nI_pos (by omega)) (nI_clamp (by omega)) (Nat.le_of_ble_eq_true rfl) (Nat.le_of_ble_eq_true rfl) (Nat.le_of_ble_eq_true rfl) dX2_init_39 (fun q_39 => ?_)
  refine uo_putF 4 F hnam inX2 tyX2_ok nmX2 rfl (by decide) rfl rfl (vm_mem 136 (by decide +kernel) (by decide +kernel)) rfl rfl rfl (by simp) dX2_init_41 ?_
  refine un_aload F 0 dX2_init_44 rfl ?_
  refine un_iconst F (nI 0) dX2_init_45 (by decide) ?_
  refine uo_put 5 F inX2 tyX2_ok nmX2 rfl (by decide) rfl (vm_mem 139 (by decide +kernel) (by decide +kernel)) rfl rfl rfl (by simp) dX2_init_46 ?_
  refine un_aload F 0 dX2_init_49 rfl ?_
  refine un_iconst F (nI 0) dX2_init_50 (by decide) ?_
  refine uo_put 6 F inX2 tyX2_ok nmX2 rfl (by decide) rfl (vm_mem 141 (by decide +kernel) (by decide +kernel)) rfl rfl rfl (by simp) dX2_init_51 ?_
  refine un_aload F 0 dX2_init_54 rfl ?_
  refine un_iconst F (nI 0) dX2_init_55 (by decide) ?_
  refine uo_put 7 F inX2 tyX2_ok nmX2 rfl (by decide) rfl (vm_mem 142 (by decide +kernel) (by decide +kernel)) rfl rfl rfl (by simp) dX2_init_56 ?_
  refine un_aload F 0 dX2_init_59 rfl ?_
  refine un_iconst F (nI 0) dX2_init_60 (by decide) ?_
  refine uo_put 8 F inX2 tyX2_ok nmX2 rfl (by decide) rfl (vm_mem 145 (by decide +kernel) (by decide +kernel)) rfl rfl rfl (by simp) dX2_init_61 ?_
  refine un_aload F 0 dX2_init_64 rfl ?_
  refine un_iconst F (nI 0) dX2_init_65 (by decide) ?_
  refine uo_put 9 F inX2 tyX2_ok nmX2 rfl (by decide) rfl (vm_mem 147 (by decide +kernel) (by decide +kernel)) rfl rfl rfl (by simp) dX2_init_66 ?_
  exact K _ _ _ ⟨un_ad [h0, q_7, q_15, q_23, q_31, q_39], rfl, rfl⟩ dX2_init_69
set_option maxHeartbeats 400000 in
set_option maxRecDepth 100000 in
theorem n_read {G : un_G} (w : va_W) (h0 : Nat) : un_RC G 2 2 402 mX3_init [] (.inr (3, [.null, .int 0, .int 0, .int 0, .int 0, .int 0])) w h0 (un_read G) := by
  refine un_init (y := mX3_init) (args := [.ref h0]) (by decide) rfl (Nat.le_of_ble_eq_true rfl) rfl (fun C F hnam K => ?_)
  have F : un_F G C cX3_init RX3 _ 2 2 402 := F
  show un_Ex G C _ 0 [(0, .ref h0)] [] (un_O w h0 3 [.null, .int 0, .int 0, .int 0, .int 0, .int 0] []) 0 0
  refine un_aload F 0 dX3_init_0 rfl ?_
  refine un_obj F (vm_mem 79 (by decide +kernel) (by decide +kernel)) oi_1 oi_2 (by decide) dX3_init_1 (Nat.le_of_ble_eq_true rfl) ?_
  refine un_aload F 0 dX3_init_4 rfl ?_
  refine uo_new (ci2 := 5) (fs2 := [.null, .int 0]) (ty := tyX5) F inX5 tyX5_ok rfl (vm_mem 80 (by decide +kernel) (by decide +kernel)) (vm_mem 81 (by decide +kernel) (by decide +kernel)) (vm_mem 50 (by decide +kernel) (by decide +kernel)) df_5 (Nat.le_of_ble_eq_true rfl) (Nat.le_of_ble_eq_true rfl) dX3_init_5 (fun q_5 => ?_)
  refine un_dup F dX3_init_8 rfl ?_
  refine uo_cn kI_X5 F (F.2.2.2.2.2.2.1.2.2.2.2.2.2.2.2) (n_tape _ _) rfl (by decide) rfl (Nat.le_of_ble_eq_true rfl) (Nat.le_of_ble_eq_true rfl) (Nat.le_of_ble_eq_true rfl) dX3_init_9 (fun a_9 e_9 => ?_)
  obtain rfl := e_9
  refine uo_putF 0 F hnam inX3 tyX3_ok nmX3 rfl (by decide) rfl rfl (vm_mem 97 (by decide +kernel) (by decide +kernel)) rfl rfl rfl (by simp) dX3_init_12 ?_
  refine un_aload F 0 dX3_init_15 rfl ?_
  refine un_iconst F (nI 0) dX3_init_16 (by decide) ?_
  refine uo_put 1 F inX3 tyX3_ok nmX3 rfl (by decide) rfl (vm_mem 99 (by decide +kernel) (by decide +kernel)) rfl rfl rfl (by simp) dX3_init_17 ?_
  refine un_aload F 0 dX3_init_20 rfl ?_
  refine un_iconst F (nI 0) dX3_init_21 (by decide) ?_
  refine uo_put 2 F inX3 tyX3_ok nmX3 rfl (by decide) rfl (vm_mem 100 (by decide +kernel) (by decide +kernel)) rfl rfl rfl (by simp) dX3_init_22 ?_
  refine un_aload F 0 dX3_init_25 rfl ?_
  refine un_iconst F (nI 0) dX3_init_26 (by decide) ?_
  refine uo_put 3 F inX3 tyX3_ok nmX3 rfl (by decide) rfl (vm_mem 102 (by decide +kernel) (by decide +kernel)) rfl rfl rfl (by simp) dX3_init_27 ?_
  refine un_aload F 0 dX3_init_30 rfl ?_
  refine un_iconst F (nI 0) dX3_init_31 (by decide) ?_
  refine uo_put 4 F inX3 tyX3_ok nmX3 rfl (by decide) rfl (vm_mem 103 (by decide +kernel) (by decide +kernel)) rfl rfl rfl (by simp) dX3_init_32 ?_
  refine un_aload F 0 dX3_init_35 rfl ?_
  refine un_iconst F (nI 0) dX3_init_36 (by decide) ?_
  refine uo_put 5 F inX3 tyX3_ok nmX3 rfl (by decide) rfl (vm_mem 104 (by decide +kernel) (by decide +kernel)) rfl rfl rfl (by simp) dX3_init_37 ?_
  exact K _ _ _ ⟨un_ad [h0, a_9 0, a_9 1], rfl, rfl⟩ dX3_init_40
