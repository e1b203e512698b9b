/-! ===== MAKING: the cells so far, in the order of making, with their addresses ===== -/
/-- launch; classes; classes of arrays by kind; every cell lies behind this address -/
abbrev un_G : Type := Launch × va_G × (Nat → ClassId) × Nat
def un_tys (G : un_G) : List (ClassId × FieldType) := [(G.2.2.1 9, .int), (G.2.2.1 10, .char), (G.2.2.1 11, .boolean), (G.2.2.1 12, .object "ErrandLanes$Row"), (G.2.2.1 13, .object "ErrandLanes$Path")]
def un_A (G : un_G) : Nat → Prop := fun q => G.2.2.2 ≤ q
/-- what the tables say beside the good words -/
def un_N (U : State) : Prop := va_AO "ErrandLanes$Row" U ∧ va_AO "ErrandLanes$Path" U ∧ va_Nw (.methodLinkNest "ErrandLanes" 17 yX3_init "ErrandLanes") U ∧ va_Nw (.methodLinkNest "ErrandLanes" 24 yX2_init "ErrandLanes") U ∧ va_Nw (.methodLinkNest "ErrandLanes" 52 yX6_init "ErrandLanes") U ∧ va_Nw (.methodLinkNest "ErrandLanes" 59 yX0_init "ErrandLanes") U ∧ va_Nw (.methodLinkNest "ErrandLanes" 75 yX4_init "ErrandLanes") U ∧ va_Nw (.methodLinkNest "ErrandLanes$Past" 24 yX2_init "ErrandLanes") U ∧ va_Nw (.methodLinkNest "ErrandLanes$Reader" 11 yX5_init "ErrandLanes") U
theorem un_N.warm {s U : State} (hW : s.WarmedH U.vm) (h : un_N s) : un_N U := by
  obtain ⟨a, b, c1, c2, c3, c4, c5, c6, c7⟩ := h
  exact ⟨a.moved hW.alike, b.moved hW.alike, va_Nw.warmM hW c1, va_Nw.warmM hW c2, va_Nw.warmM hW c3, va_Nw.warmM hW c4, va_Nw.warmM hW c5, va_Nw.warmM hW c6, va_Nw.warmM hW c7⟩
theorem un_N.same {u U : State} (hv : U.vm = u.vm) (h : un_N u) : un_N U := by
  obtain ⟨a, b, c1, c2, c3, c4, c5, c6, c7⟩ := h
  have hv2 : u.vm.Alike U.vm := by rw [hv]; exact Vm.Alike.refl _
  exact ⟨a.moved hv2, b.moved hv2, va_Nw.same rfl hv.symm c1, va_Nw.same rfl hv.symm c2, va_Nw.same rfl hv.symm c3, va_Nw.same rfl hv.symm c4, va_Nw.same rfl hv.symm c5, va_Nw.same rfl hv.symm c6, va_Nw.same rfl hv.symm c7⟩
def un_R (G : un_G) (ws : va_W) (U : State) : Prop := va_P G.2.1 vwCl ws U.heap ∧ va_K G.2.1 vwCl (un_tys G) U ∧ va_D (un_A G) ws ∧ un_N U ∧ G.2.2.2 ≤ U.heap.size
def un_rm (d mc ms : Nat) : Room := { frames := d, cells := mc, slots := ms, locals := 40 * d }
def un_RV (G : un_G) (d mc ms : Nat) (y : vm_Y) (args : List Value) (ws : va_W) (post : va_W → Prop) : Prop := Met G.1 y.1 (vm_ws1 y) (un_rm d mc ms) (va_Pc args (un_R G ws)) (va_Qv post (un_R G) (un_A G)) mc ms (un_A G)
theorem un_blind (G : un_G) (args : List Value) (ws : va_W) : FrameBlind (va_Pc args (un_R G ws)) := fun a U g mk h => ⟨h.1, by
  obtain ⟨h1, h2, h3, h4, h5⟩ := h.2
  exact ⟨h1, va_K.moved (u := U) (U := U.calling g mk a) (Vm.Alike.refl U.vm) h2, h3, h4.same rfl, h5⟩⟩
def un_F (G : un_G) (C : vm_C) (cc : ByteArray) (own : String) (nL d mc ms : Nat) : Prop :=
  (vm_cp C).tables.exec = Jvm.exec ∧ (vm_cc C).code = cc ∧ (vm_cc C).maxLocals = nL ∧ (vm_cs C).vm.findClass own = some (vm_cm C).cls ∧ (∀ w ∈ vm_wsA, w.before (vm_ca C) (vm_cs C) = true) ∧
  va_K G.2.1 vwCl (un_tys G) (vm_cs C) ∧ un_N (vm_cs C) ∧ G.2.2.2 ≤ (vm_cs C).heap.size ∧
  d ≤ (vm_cR C).frames ∧ 40 * d ≤ (vm_cR C).locals ∧ mc ≤ (vm_cR C).cells ∧ ms ≤ (vm_cR C).slots
def un_Ex (G : un_G) (C : vm_C) (nL pc : Nat) (ll : List (Nat × Value)) (st : List Value) (ws : va_W) (k n : Nat) : Prop :=
  ∀ (H : Heap) (locs : List Loc) (la : Array Slot), va_P G.2.1 vwCl ws H → va_D (un_A G) ws → va_S (un_A G) (vm_cs C).heap H locs → lv_has la nL ll →
    W (vm_cp C) G.1 (vm_ce C) (vm_cR C) (vm_cs C) (vm_cm C) (vm_ca C) (vm_cb C) (vm_cM C) (vm_cc C) H locs k n (vm_cZ C) (F0 (vm_cm C) pc la st)
theorem un_init {G : un_G} {d mc ms : Nat} {y : vm_Y} {args : List Value} {ws : va_W} {post : va_W → Prop} (hy : plainName y.1.cls = true) (hnm : y.1.name = "<init>") (hlen : (lg_sl args).length ≤ y.2.2.1) (hr : y.2.2.2 = none)
    (body : ∀ C : vm_C, un_F G C y.2.1 y.1.cls y.2.2.1 d mc ms → (vm_cM C).name = "<init>" → (∀ (ws' : va_W) (pc : Nat) (ll : List (Nat × Value)), post ws' → decode y.2.1 pc = .ok (.return_, 1) → un_Ex G C y.2.2.1 pc ll [] ws' mc ms) → un_Ex G C y.2.2.1 0 (lv_args 0 args) [] ws 0 0) : un_RV G d mc ms y args ws post := by
  refine Met.ofW (cc := y.2.1) (maxL := y.2.2.1) (ret := y.2.2.2) hy rfl ?_
  intro p e s m as below meth c s₁ B hml hv
  obtain ⟨rfl, hP, hK, hD, hN, hz⟩ := hv
  have hts := atoms_spec (ws := vm_ws1 y) B.pre
  have hown : s.vm.findClass y.1.cls = some m.cls := findClass_of_methodNamed B.named
  have hin : meth.name = y.1.name := (name_of_methodNamed B.named B.method).1
  have hE := lv_entry args (n := y.2.2.1) hlen
  rw [lg_entry_eq]
  refine body (p, e, (headSpec (vm_ws1 y) (un_rm d mc ms)).room, s, m, args.toArray, below, meth, c, mc, ms, MQ below (va_Qv post (un_R G) (un_A G)) args.toArray s mc ms (un_A G), un_A G)
    ⟨B.exec, B.bytes, hml, hown, fun w hw => hts w (List.mem_cons_of_mem _ hw), hK, hN, hz, Nat.le_refl _, Nat.le_refl _, Nat.le_refl _, Nat.le_refl _⟩ (hin.trans hnm) (fun ws' pc ll hp hd H locs la hP1 hD1 hS1 hl1 => ?_) s.heap [] _ hP hD va_S.rf hE
  refine W.vret B.exec B.bytes (by rw [B.returns, hr]) (fun t ht hW => ⟨⟨ws', rfl, hp, ?_⟩, hS1.F ht⟩) hS1.2.2 hd B.notSynchronized
  exact ⟨by rw [ht]; exact hP1, va_K.moved hW.alike hK, hD1, hN.warm hW, Nat.le_trans hz (by rw [ht]; exact hS1.1)⟩
theorem un_uniq {s : State} {ty : FieldType} {c1 c2 : ClassId} (h1 : va_RA s c1 ty) (h2 : va_RA s c2 ty) : c1 = c2 := by
  cases ty <;> first
    | exact Option.some.inj (h1.symm.trans h2)
    | (obtain ⟨_, _, _, _, _, e1⟩ := h1; obtain ⟨_, _, _, _, _, e2⟩ := h2; exact Option.some.inj (e1.symm.trans e2))
section
variable {G : un_G} {C : vm_C} {cc : ByteArray} {own C' : String} {T : u_T} {N ci nL d mc ms pc idx a k n : Nat} {ll : List (Nat × Value)} {st : List Value} {ws : va_W}
theorem un_top {v : Value} (w : Value) (e : v = w) (kk : un_Ex G C nL pc ll (w :: st) ws k n) : un_Ex G C nL pc ll (v :: st) ws k n := e ▸ kk
theorem un_aload {i : Fin 4} {v : Nat} (F : un_F G C cc own nL d mc ms) (j : Nat) (dd : decode cc pc = .ok (.aload_n i, 1)) (hj : ll[j]? = some (i.val, .ref v)) (kk : un_Ex G C nL (pc + 1) ll (.ref v :: st) ws k n) : un_Ex G C nL pc ll st ws k n :=
  fun H locs la hP hD hS hl => lv_aload_n F.1 F.2.1 dd rfl (lv_at hl j hj) (kk H locs la hP hD hS hl)
theorem un_iload {i : Fin 4} {v : Int32} (F : un_F G C cc own nL d mc ms) (j : Nat) (dd : decode cc pc = .ok (.iload_n i, 1)) (hj : ll[j]? = some (i.val, .int v)) (kk : un_Ex G C nL (pc + 1) ll (.int v :: st) ws k n) : un_Ex G C nL pc ll st ws k n :=
  fun H locs la hP hD hS hl => lv_iload_n F.1 F.2.1 dd rfl (lv_at hl j hj) (kk H locs la hP hD hS hl)
theorem un_iconst {x : Int} (F : un_F G C cc own nL d mc ms) (v : Int32) (dd : decode cc pc = .ok (.iconst x, 1)) (hv : Int32.ofInt x = v) (kk : un_Ex G C nL (pc + 1) ll (.int v :: st) ws k n) : un_Ex G C nL pc ll st ws k n := fun H locs la hP hD hS hl => lv_iconst F.1 F.2.1 dd hv (kk H locs la hP hD hS hl)
theorem un_bipush {x : Int} (F : un_F G C cc own nL d mc ms) (v : Int32) (dd : decode cc pc = .ok (.bipush x, 2)) (hv : (Int8.ofInt x).toInt32 = v) (kk : un_Ex G C nL (pc + 2) ll (.int v :: st) ws k n) : un_Ex G C nL pc ll st ws k n := fun H locs la hP hD hS hl => lv_bipush F.1 F.2.1 dd hv (kk H locs la hP hD hS hl)
theorem un_sipush {x : Int} (F : un_F G C cc own nL d mc ms) (v : Int32) (dd : decode cc pc = .ok (.sipush x, 3)) (hv : (Int16.ofInt x).toInt32 = v) (kk : un_Ex G C nL (pc + 3) ll (.int v :: st) ws k n) : un_Ex G C nL pc ll st ws k n := fun H locs la hP hD hS hl => lv_sipush F.1 F.2.1 dd hv (kk H locs la hP hD hS hl)
theorem un_ldc {v : Int32} (F : un_F G C cc own nL d mc ms) (dd : decode cc pc = .ok (.ldc idx, 2)) (hw : Cond.constant own idx v ∈ vm_wsA) (kk : un_Ex G C nL (pc + 2) ll (.int v :: st) ws k n) : un_Ex G C nL pc ll st ws k n := fun H locs la hP hD hS hl => lv_ldc F.1 F.2.1 F.2.2.2.1 (F.2.2.2.2.1 _ hw) dd (kk H locs la hP hD hS hl)
theorem un_dup {v : Value} (F : un_F G C cc own nL d mc ms) (dd : decode cc pc = .ok (.dup, 1)) (hv : v.category = 1) (kk : un_Ex G C nL (pc + 1) ll (v :: v :: st) ws k n) : un_Ex G C nL pc ll (v :: st) ws k n := fun H locs la hP hD hS hl => lv_dup F.1 F.2.1 dd hv (kk H locs la hP hD hS hl)
theorem un_goto {off : Int} (F : un_F G C cc own nL d mc ms) (tgt : Nat) (dd : decode cc pc = .ok (.goto off, 3)) (ht : (pc : Int) + off = (tgt : Int)) (kk : un_Ex G C nL tgt ll st ws k n) : un_Ex G C nL pc ll st ws k n := fun H locs la hP hD hS hl => lv_goto F.1 F.2.1 dd ht (kk H locs la hP hD hS hl)
theorem un_ge {off : Int} {x y : Nat} (F : un_F G C cc own nL d mc ms) (tgt : Nat) (dd : decode cc pc = .ok (.if_icmp .ge off, 3)) (ht : (pc : Int) + off = (tgt : Int)) (hx : x < 2 ^ 31) (hy : y < 2 ^ 31) (kt : y ≤ x → un_Ex G C nL tgt ll st ws k n) (kf : x < y → un_Ex G C nL (pc + 3) ll st ws k n) : un_Ex G C nL pc ll (.int (nI y) :: .int (nI x) :: st) ws k n := fun H locs la hP hD hS hl => lv_icmp_ge F.1 F.2.1 dd ht
  (fun h => kt (by rw [Int32.le_iff_toInt_le, nI_toInt hx, nI_toInt hy] at h; omega) H locs la hP hD hS hl) (fun h => kf (by rw [Int32.le_iff_toInt_le, nI_toInt hx, nI_toInt hy] at h; omega) H locs la hP hD hS hl)
theorem un_istore {i : Fin 4} {x : Int32} {ll' : List (Nat × Value)} (F : un_F G C cc own nL d mc ms) (dd : decode cc pc = .ok (.istore_n i, 1)) (hn : i.val < nL) (hl' : (i.val, Value.int x) :: ll.filter (fun q => !(q.1 == i.val) && !(q.1 + 1 == i.val && q.2.category == 2)) = ll') (kk : un_Ex G C nL (pc + 1) ll' st ws k n) : un_Ex G C nL pc ll (.int x :: st) ws k n := fun H locs la hP hD hS hl => lv_istore_n F.1 F.2.1 dd rfl hl hn hl' (fun la' hl2 => kk H locs la' hP hD hS hl2)
theorem un_astore {i : Fin 4} {x : Nat} {ll' : List (Nat × Value)} (F : un_F G C cc own nL d mc ms) (dd : decode cc pc = .ok (.astore_n i, 1)) (hn : i.val < nL) (hl' : (i.val, Value.ref x) :: ll.filter (fun q => !(q.1 == i.val) && !(q.1 + 1 == i.val && q.2.category == 2)) = ll') (kk : un_Ex G C nL (pc + 1) ll' st ws k n) : un_Ex G C nL pc ll (.ref x :: st) ws k n := fun H locs la hP hD hS hl => lv_astore_n F.1 F.2.1 dd rfl hl hn hl' (fun la' hl2 => kk H locs la' hP hD hS hl2)
theorem un_iinc {i j : Nat} {z : Int} {x v : Int32} {ll' : List (Nat × Value)} (F : un_F G C cc own nL d mc ms) (dd : decode cc pc = .ok (.iinc i z, 3)) (hj : ll[j]? = some (i, .int x)) (hv : x + Int32.ofInt z = v) (hn : i < nL) (hl' : (i, Value.int v) :: ll.filter (fun q => !(q.1 == i) && !(q.1 + 1 == i && q.2.category == 2)) = ll') (kk : un_Ex G C nL (pc + 3) ll' st ws k n) : un_Ex G C nL pc ll st ws k n := fun H locs la hP hD hS hl => lv_iinc F.1 F.2.1 dd hl hj hv hn hl' (fun la' hl2 => kk H locs la' hP hD hS hl2)
theorem un_obj (F : un_F G C cc own nL d mc ms) (hw : Cond.methodLink own idx Lib.objectInit ∈ vm_wsA) (h1 : Cond.instanceMethod Lib.objectInit ∈ vm_wsA) (h2 : Cond.code Lib.objectInit ⟨#[0xb1]⟩ 1 none ∈ vm_wsA) (hd : 1 ≤ d) (dd : decode cc pc = .ok (.invokespecial idx, 3)) (hcat : (st.map fun v => v.category).sum ≤ 8) (kk : un_Ex G C nL (pc + 3) ll st ws k n) : un_Ex G C nL pc ll (.ref a :: st) ws k n := by
  intro H locs la hP hD hS hl
  obtain ⟨f1, f2, f3, f4, fw, -, -, -, g1, g2, -, -⟩ := id F
  refine W.objInit f1 f2 f4 (fw _ hw) (fw _ h1) (fw _ h2) rfl (by rw [f3]; exact hl.1) rfl dd (by omega) (by show 2 * 0 + _ + 12 ≤ _; omega) ?_
  exact W.eq (g2 := F0 (vm_cm C) (pc + 3) la st) rfl (kk H locs la hP hD hS hl)
theorem un_newa {atype : ArrayType} {ty : FieldType} {v : Int32} (t0 kd N' : Nat) (F : un_F G C cc own nL d mc ms) (harr : Cond.arrayClass (newarray.typeOf atype) ∈ vm_wsA) (hty : newarray.typeOf atype = ty) (ht : (un_tys G)[t0]? = some (G.2.2.1 kd, ty)) (ha : ∀ cA : ClassId, vp_cell cA (N', .inl (fun _ => 0)) = arrV cA N' (fun _ => defaultValue ty)) (hn : ¬ v < 0) (hN : v.toNatClampNeg = N') (hb : N' * componentBytes ty ≤ 536870912) (hc : k + 1 ≤ mc) (hs : n + N' ≤ ms) (dd : decode cc pc = .ok (.newarray atype, 2))
    (kk : ∀ q, un_Ex G C nL (pc + 2) ll (.ref q :: st) (ws ++ [(q, .inl (G.2.2.1 kd, N', .inl (fun _ => 0)))]) (k + 1) (n + N')) : un_Ex G C nL pc ll (.int v :: st) ws k n := by
  intro H locs la hP hD hS hl
  obtain ⟨f1, f2, f3, f4, fw, fK, fN, fz, g1, g2, g3, g4⟩ := id F
  refine va_newa f1 f2 (fw _ harr) hty fK hP hD hS (fun q h => Nat.le_trans fz h) ha hn hN hb (Nat.le_trans hc g3) (Nat.le_trans hs g4) dd (fun q cA H1 hK1 hP1 hD1 hS1 => ?_)
  have e : cA = G.2.2.1 kd := un_uniq ((hK1.2 5 (cA, ty) (by simp [un_tys])).2) ((fK.2 t0 _ ht).2)
  subst e
  exact kk q H1 locs la hP1 hD1 hS1 hl
theorem un_newq {C1 : String} {v : Int32} (t0 kd N' : Nat) (F : un_F G C cc own nL d mc ms) (hw : Cond.classLink own idx C1 ∈ vm_wsA) (hover : va_AO C1 (vm_cs C)) (ht : (un_tys G)[t0]? = some (G.2.2.1 kd, .object C1)) (hn : ¬ v < 0) (hN : v.toNatClampNeg = N') (hb : N' * 4 ≤ 536870912) (hc : k + 1 ≤ mc) (hs : n + N' ≤ ms) (dd : decode cc pc = .ok (.anewarray idx, 3))
    (kk : ∀ q, un_Ex G C nL (pc + 3) ll (.ref q :: st) (ws ++ [(q, .inl (G.2.2.1 kd, N', .inr (.inr (.inr (.inr (fun _ => none))))))]) (k + 1) (n + N')) : un_Ex G C nL pc ll (.int v :: st) ws k n := by
  intro H locs la hP hD hS hl
  obtain ⟨f1, f2, f3, f4, fw, fK, fN, fz, g1, g2, g3, g4⟩ := id F
  refine va_newq f1 f2 f4 (fw _ hw) hover fK hP hD hS (fun q h => Nat.le_trans fz h) hn hN hb (Nat.le_trans hc g3) (Nat.le_trans hs g4) dd (fun q cA H1 hK1 hP1 hD1 hS1 => ?_)
  have e : cA = G.2.2.1 kd := un_uniq ((hK1.2 5 (cA, .object C1) (by simp [un_tys])).2) ((fK.2 t0 _ ht).2)
  subst e
  exact kk q H1 locs la hP1 hD1 hS1 hl
theorem un_new {ty : Nat → FieldType} {fs : List Value} (F : un_F G C cc own nL d mc ms) (hin : ∀ w ∈ u_ws C' T N, w ∈ vm_wsA) (hty : ∀ k, k < N → parseFieldDescriptor (T k).2.2.1 = some (ty k)) (hc : vwCl[ci]? = some (C', T, N)) (h1 : Cond.classLink own idx C' ∈ vm_wsA) (h2 : Cond.instantiable C' N ∈ vm_wsA) (h3 : Cond.initialized C' ∈ vm_wsA) (hfs : ∀ j, j < N → defaultValue (ty j) = vp_V fs j) (hcl : k + 1 ≤ mc) (hs : n + N ≤ ms) (dd : decode cc pc = .ok (.new idx, 3))
    (kk : ∀ q, un_Ex G C nL (pc + 3) ll (.ref q :: st) (ws ++ [(q, .inr (ci, fs))]) (k + 1) (n + N)) : un_Ex G C nL pc ll st ws k n := by
  intro H locs la hP hD hS hl
  obtain ⟨f1, f2, f3, f4, fw, fK, fN, fz, g1, g2, g3, g4⟩ := id F
  exact va_new (ci := ci) (fs := fs) (C := C') (T := T) (N := N) f1 f2 fw hin ty hty f4 (fw _ h1) (fw _ h2) (fw _ h3) fK hP hD hS (fun q h => Nat.le_trans fz h) hc hfs (Nat.le_trans hcl g3) (Nat.le_trans hs g4) dd (fun q H1 hP1 hD1 hS1 => kk q H1 locs la hP1 hD1 hS1 hl)
theorem un_put {ty0 : Nat → FieldType} {fs : List Value} {v : Value} (q0 j : Nat) (F : un_F G C cc own nL d mc ms) (hin : ∀ w ∈ u_ws C' T N, w ∈ vm_wsA) (hty : ∀ k, k < N → parseFieldDescriptor (T k).2.2.1 = some (ty0 k)) (hnm : ∀ a, a < N → ∀ b, b < N → a ≠ b → (T a).2.1 ≠ (T b).2.1) (hc : vwCl[ci]? = some (C', T, N)) (hj : j < N) (hT : (T j).1 = C') (hw : Cond.fieldLink own idx C' (T j).2.1 (T j).2.2.1 ∈ vm_wsA) (hfin : (T j).2.2.2 = false) (he : ws[q0]? = some (a, .inr (ci, fs))) (hn : narrow (ty0 j) v = v) (hfit : fits (ty0 j) v = true) (hl0 : j < fs.length) (dd : decode cc pc = .ok (.putfield idx, 3))
    (kk : un_Ex G C nL (pc + 3) ll st (ws.set q0 (a, .inr (ci, fs.set j v))) k n) : un_Ex G C nL pc ll (v :: .ref a :: st) ws k n := by
  intro H locs la hP hD hS hl
  obtain ⟨f1, f2, f3, f4, fw, fK, fN, fz, g1, g2, g3, g4⟩ := id F
  exact va_put (ci := ci) (C := C') (T := T) (N := N) (ref := C') f1 f2 fw hin ty0 hty hnm f4 fK hP hD hS q0 he hc j hj (fw _ hw) (by rw [hT]; exact fun _ h => h) hfin (hty j hj) hn hfit hl0 dd (fun H1 locs1 hP1 hD1 hS1 => kk H1 locs1 la hP1 hD1 hS1 hl)
theorem un_putF {ty0 : Nat → FieldType} {fs : List Value} {v : Value} (q0 j : Nat) (F : un_F G C cc own nL d mc ms) (hnam : (vm_cM C).name = "<init>") (hin : ∀ w ∈ u_ws C' T N, w ∈ vm_wsA) (hty : ∀ k, k < N → parseFieldDescriptor (T k).2.2.1 = some (ty0 k)) (hnm : ∀ a, a < N → ∀ b, b < N → a ≠ b → (T a).2.1 ≠ (T b).2.1) (hc : vwCl[ci]? = some (C', T, N)) (hj : j < N) (hT : (T j).1 = C') (hown : C' = own) (hw : Cond.fieldLink own idx C' (T j).2.1 (T j).2.2.1 ∈ vm_wsA) (hfin : (T j).2.2.2 = true) (he : ws[q0]? = some (a, .inr (ci, fs))) (hn : narrow (ty0 j) v = v) (hfit : fits (ty0 j) v = true) (hl0 : j < fs.length) (dd : decode cc pc = .ok (.putfield idx, 3))
    (kk : un_Ex G C nL (pc + 3) ll st (ws.set q0 (a, .inr (ci, fs.set j v))) k n) : un_Ex G C nL pc ll (v :: .ref a :: st) ws k n := by
  intro H locs la hP hD hS hl
  obtain ⟨f1, f2, f3, f4, fw, fK, fN, fz, g1, g2, g3, g4⟩ := id F
  exact va_putF (ci := ci) (C := C') (T := T) (N := N) (ref := C') f1 f2 fw hin ty0 hty hnm f4 fK hP hD hS q0 he hc j hj (fw _ hw) (by rw [hT]; exact fun _ h => h) hfin hnam (hT.trans hown) (hty j hj) hn hfit hl0 dd (fun H1 locs1 hP1 hD1 hS1 => kk H1 locs1 la hP1 hD1 hS1 hl)
theorem un_get {fs : List Value} {v : Value} (q0 j : Nat) (F : un_F G C cc own nL d mc ms) (hin : ∀ w ∈ u_ws C' T N, w ∈ vm_wsA) (hc : vwCl[ci]? = some (C', T, N)) (hj : j < N) (hT : (T j).1 = C') (hw : Cond.fieldLink own idx C' (T j).2.1 (T j).2.2.1 ∈ vm_wsA) (he : ws[q0]? = some (a, .inr (ci, fs))) (hv : fs[j]? = some v) (dd : decode cc pc = .ok (.getfield idx, 3))
    (kk : un_Ex G C nL (pc + 3) ll (v :: st) ws k n) : un_Ex G C nL pc ll (.ref a :: st) ws k n := by
  intro H locs la hP hD hS hl
  obtain ⟨f1, f2, f3, f4, fw, fK, fN, fz, g1, g2, g3, g4⟩ := id F
  exact va_get (ci := ci) (v := v) (C := C') (T := T) (N := N) (ref := C') f1 f2 fw hin f4 fK hP q0 he hc j hj (fw _ hw) (by rw [hT]; exact fun _ h => h) hv dd (kk H locs la hP hD hS hl)
theorem un_aast {r : vw_C} {N' i v : Nat} {vs : List Value} {f : Nat → Option Nat} (q0 t0 qk kd : Nat) (F : un_F G C cc own nL d mc ms) (ha : ws[q0]? = some (a, .inl (G.2.2.1 kd, N', .inr (.inr (.inr (.inr f)))))) (ht : (un_tys G)[t0]? = some (G.2.2.1 kd, .object r.1)) (hv : ws[qk]? = some (v, .inr (ci, vs))) (hc : vwCl[ci]? = some r) (hi : i < N') (hN : N' < 2 ^ 31) (dd : decode cc pc = .ok (.aastore, 1))
    (kk : un_Ex G C nL (pc + 1) ll st (ws.set q0 (a, .inl (G.2.2.1 kd, N', .inr (.inr (.inr (.inr (va_up f i (some v)))))))) k n) : un_Ex G C nL pc ll (.ref v :: .int (nI i) :: .ref a :: st) ws k n := by
  intro H locs la hP hD hS hl
  obtain ⟨f1, f2, f3, f4, fw, fK, fN, fz, g1, g2, g3, g4⟩ := id F
  refine va_astq f1 f2 fK hP hD hS q0 t0 qk ci ha ht hv hc (vp_in_nI hi hN) dd (fun H1 locs1 hP1 hD1 hS1 => ?_)
  rw [nI_clamp (by omega)] at hP1 hD1
  exact kk H1 locs1 la hP1 hD1 hS1 hl
theorem un_iast {N' i : Nat} {x : Int32} {f : Nat → Int32} (q0 : Nat) (F : un_F G C cc own nL d mc ms) (ha : ws[q0]? = some (a, .inl (G.2.2.1 9, N', .inl f))) (hi : i < N') (hN : N' < 2 ^ 31) (dd : decode cc pc = .ok (.iastore, 1))
    (kk : un_Ex G C nL (pc + 1) ll st (ws.set q0 (a, .inl (G.2.2.1 9, N', .inl (upd f i x)))) k n) : un_Ex G C nL pc ll (.int x :: .int (nI i) :: .ref a :: st) ws k n := by
  intro H locs la hP hD hS hl
  obtain ⟨f1, f2, f3, f4, fw, fK, fN, fz, g1, g2, g3, g4⟩ := id F
  refine va_iast f1 f2 fK hP hD hS q0 0 ha rfl (vp_in_nI hi hN) dd (fun H1 locs1 hP1 hD1 hS1 => ?_)
  rw [nI_clamp (by omega)] at hP1 hD1
  exact kk H1 locs1 la hP1 hD1 hS1 hl
/-- what a call of a constructor needs of the words -/
def un_kI (y : vm_Y) (m : Nat) : Prop := y.1.name = "<init>" ∧ y.2.2.2 = none ∧ (y.1.cls ≠ "java/lang/invoke/MethodHandle" ∧ y.1.cls ≠ "java/lang/invoke/VarHandle" ∧ (parseMethodDescriptor y.1.desc).map (fun d => d.parameters.length) = some m) ∧ y.2.2.1 ≤ 21 ∧ Cond.initialized y.1.cls ∈ vm_wsA ∧ Cond.instanceMethod y.1 ∈ vm_wsA ∧ Cond.code y.1 y.2.1 y.2.2.1 y.2.2.2 ∈ vm_wsA
theorem un_ci {y : vm_Y} {d' mc' ms' m : Nat} {As st0 : List Value} {post : va_W → Prop} (hk : un_kI y m) (hw : Cond.methodLink own idx y.1 ∈ vm_wsA) (F : un_F G C cc own nL d mc ms) (hM : un_RV G d' mc' ms' y (.ref a :: As) ws post) (hm : As.length = m) (hd : d' < d) (hst : As.reverse ++ .ref a :: st = st0) (hcat : (st.map fun v => v.category).sum ≤ 8) (hc : k + mc' ≤ mc) (hs : n + ms' ≤ ms) (dd : decode cc pc = .ok (.invokespecial idx, 3))
    (kk : ∀ ws', post ws' → un_Ex G C nL (pc + 3) ll st ws' (k + mc') (n + ms')) : un_Ex G C nL pc ll st0 ws k n := by
  intro H locs la hP hD hS hl
  obtain ⟨f1, f2, f3, f4, fw, fK, fN, fz, g1, g2, g3, g4⟩ := id F
  obtain ⟨k1, k2, k3, k4, k5, k6, k7⟩ := hk
  subst hm
  have hgood : GoodIn vm_wsA (vm_ws1 y) := vm_good (fun w hw => by
    simp only [vm_ws1, List.mem_cons] at hw
    rcases hw with rfl | hw <;> assumption)
  exact va_callv (va_runI (y := y.1) (bytes := y.2.1) (maxL := y.2.2.1) (As := As) (rest := st) (n := As.length) ⟨f1, f2, f3, f4, fw⟩ hM (cwI (ws' := vm_wsA) As.length fw hgood (by unfold vm_ws1; rw [k2]) rfl rfl (fw _ k5) (fw _ hw) (fw _ k6) k1 k3 ⟨by show d' + 1 ≤ _; omega, by show 8 + (y.2.2.1 + 11) + 40 * d' ≤ _; omega⟩) ⟨un_blind G _ ws, fun U hU hW => ⟨rfl, by rw [hU]; exact hP, va_K.moved hW.alike fK, hD, fN.warm hW, by rw [hU]; exact Nat.le_trans fz hS.1⟩⟩ rfl rfl hl.1 hst.symm (lv_room hcat) dd ⟨Nat.le_trans hc g3, Nat.le_trans hs g4⟩) hS (fun q _ h => h) (fun q h => h) (fun u t H1 locs1 ht hvm hw hB hz hk1 hS1 => kk u hw H1 locs1 la (by rw [← ht]; exact hB.1) hB.2.2.1 hS1 hl)
theorem un_cn {y : vm_Y} {d' mc' ms' m : Nat} {As st0 : List Value} {post : va_W → Prop} (hk : un_kI y m) (F : un_F G C cc own nL d mc ms) (hw : va_Nw (.methodLinkNest own idx y.1 "ErrandLanes") (vm_cs C)) (hM : un_RV G d' mc' ms' y (.ref a :: As) ws post) (hm : As.length = m) (hd : d' < d) (hst : As.reverse ++ .ref a :: st = st0) (hcat : (st.map fun v => v.category).sum ≤ 8) (hc : k + mc' ≤ mc) (hs : n + ms' ≤ ms) (dd : decode cc pc = .ok (.invokespecial idx, 3))
    (kk : ∀ ws', post ws' → un_Ex G C nL (pc + 3) ll st ws' (k + mc') (n + ms')) : un_Ex G C nL pc ll st0 ws k n := by
  intro H locs la hP hD hS hl
  obtain ⟨f1, f2, f3, f4, fw, fK, fN, fz, g1, g2, g3, g4⟩ := id F
  obtain ⟨k1, k2, k3, k4, k5, k6, k7⟩ := hk
  subst hm
  have hgood : GoodIn vm_wsA (vm_ws1 y) := vm_good (fun w hw => by
    simp only [vm_ws1, List.mem_cons] at hw
    rcases hw with rfl | hw <;> assumption)
  exact va_callv (va_runIN (host := "ErrandLanes") (y := y.1) (bytes := y.2.1) (maxL := y.2.2.1) (As := As) (rest := st) (n := As.length) ⟨f1, f2, f3, f4, fw⟩ hM ⟨va_cnB (ws' := vm_wsA) (ret := none) As.length fw hgood (by unfold vm_ws1; rw [k2]) rfl rfl hw (fw _ k5) k3 ⟨by show d' + 1 ≤ _; omega, by show 8 + (y.2.2.1 + 11) + 40 * d' ≤ _; omega⟩, k1, fw _ k6⟩ ⟨un_blind G _ ws, fun U hU hW => ⟨rfl, by rw [hU]; exact hP, va_K.moved hW.alike fK, hD, fN.warm hW, by rw [hU]; exact Nat.le_trans fz hS.1⟩⟩ rfl rfl hl.1 hst.symm (lv_room hcat) dd ⟨Nat.le_trans hc g3, Nat.le_trans hs g4⟩) hS (fun q _ h => h) (fun q h => h) (fun u t H1 locs1 ht hvm hw hB hz hk1 hS1 => kk u hw H1 locs1 la (by rw [← ht]; exact hB.1) hB.2.2.1 hS1 hl)
end
