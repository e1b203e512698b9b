section
variable {G : un_G} {C : vm_C} {cc : ByteArray} {own : String} {ci nL d mc ms pc k n h0 : Nat} {ll : List (Nat × Value)} {st : List Value} {w L : va_W} {fs : List Value}
theorem un_L (L' : va_W) (e : L = L') (kk : un_Ex G C nL pc ll st (un_O w h0 ci fs L') k n) : un_Ex G C nL pc ll st (un_O w h0 ci fs L) k n := e ▸ kk
theorem un_fs (fs' : List Value) (e : fs = fs') (kk : un_Ex G C nL pc ll st (un_O w h0 ci fs' L) k n) : un_Ex G C nL pc ll st (un_O w h0 ci fs L) k n := e ▸ kk
theorem un_kn {ws : va_W} (k' n' : Nat) (e1 : k = k') (e2 : n = n') (kk : un_Ex G C nL pc ll st ws k' n') : un_Ex G C nL pc ll st ws k n := by
  subst e1 e2
  exact kk
theorem uo_at (j : Nat) : (un_O w h0 ci fs L)[w.length + 1 + j]? = L[j]? := by
  rw [List.getElem?_append_right (by omega), show w.length + 1 + j - w.length = j + 1 by omega, List.getElem?_cons_succ]
theorem li_set {A Y : va_W} {x y : Nat × va_E} : (A ++ x :: Y).set A.length y = A ++ y :: Y := by simp
theorem uo_set (j : Nat) (y : Nat × va_E) : (un_O w h0 ci fs L).set (w.length + 1 + j) y = un_O w h0 ci fs (L.set j y) := by
  unfold un_O
  rw [List.set_append_right _ _ (by omega), show w.length + 1 + j - w.length = j + 1 by omega]
  rfl
theorem uo_aast {r : vw_C} {N' i v q ci2 : Nat} {vs : List Value} {f : Nat → Option Nat} {A B S X X' : va_W} (t0 kd : Nat) (F : un_F G C cc own nL d mc ms) (ht : (un_tys G)[t0]? = some (G.2.2.1 kd, .object r.1)) (hX : X = (v, .inr (ci2, vs)) :: X') (hc : vwCl[ci2]? = some r) (hi : i < N') (hN : N' < 2 ^ 31) (dd : decode cc pc = .ok (.aastore, 1))
    (kk : un_Ex G C nL (pc + 1) ll st (un_O w h0 ci fs (A ++ (q, .inl (G.2.2.1 kd, N', .inr (.inr (.inr (.inr (va_up f i (some v))))))) :: (B ++ (S ++ X)))) k n) : un_Ex G C nL pc ll (.ref v :: .int (nI i) :: .ref q :: st) (un_O w h0 ci fs ((A ++ (q, .inl (G.2.2.1 kd, N', .inr (.inr (.inr (.inr f))))) :: (B ++ S)) ++ X)) k n := by
  have e : (A ++ (q, .inl (G.2.2.1 kd, N', .inr (.inr (.inr (.inr f))))) :: (B ++ S)) ++ X = A ++ (q, .inl (G.2.2.1 kd, N', .inr (.inr (.inr (.inr f))))) :: (B ++ (S ++ X)) := by simp
  rw [e]
  refine un_aast (w.length + 1 + A.length) t0 (w.length + 1 + (A.length + 1 + B.length + S.length)) kd F (vs := vs) (f := f) (N' := N') ?_ ht ?_ hc hi hN dd ?_
  · rw [uo_at, List.getElem?_append_right (Nat.le_refl _), Nat.sub_self]
    rfl
  · rw [uo_at, List.getElem?_append_right (by omega), show A.length + 1 + B.length + S.length - A.length = (B.length + S.length) + 1 by omega, List.getElem?_cons_succ, List.getElem?_append_right (by omega), show B.length + S.length - B.length = S.length by omega, List.getElem?_append_right (Nat.le_refl _), Nat.sub_self, hX]
    rfl
  · rw [uo_set, li_set]
    exact kk
end
def un_paths (G : un_G) (a : Nat → Nat → Nat) : Nat → va_W
  | 0 => []
  | i + 1 => un_paths G a i ++ un_path G (a i)
def un_rows (G : un_G) (a : Nat → Nat → Nat) : Nat → va_W
  | 0 => []
  | i + 1 => un_rows G a i ++ un_row G (a i)
theorem un_path_cg {G : un_G} {a b : Nat → Nat} (h : ∀ m, m < 6 → a m = b m) : un_path G a = un_path G b := by
  unfold un_path
  rw [h 0 (by omega), h 1 (by omega), h 2 (by omega), h 3 (by omega), h 4 (by omega), h 5 (by omega)]
theorem un_paths_cg {G : un_G} {a b : Nat → Nat → Nat} : ∀ {n : Nat}, (∀ j, j < n → ∀ m, m < 6 → a j m = b j m) → un_paths G a n = un_paths G b n
  | 0, _ => rfl
  | n + 1, h => by rw [un_paths, un_paths, un_paths_cg (n := n) (fun j hj => h j (by omega)), un_path_cg (h n (by omega))]
theorem un_rows_cg {G : un_G} {a b : Nat → Nat → Nat} : ∀ {n : Nat}, (∀ j, j < n → a j = b j) → un_rows G a n = un_rows G b n
  | 0, _ => rfl
  | n + 1, h => by rw [un_rows, un_rows, un_rows_cg (n := n) (fun j hj => h j (by omega)), h n (by omega)]
theorem un_paths_u {G : un_G} {a : Nat → Nat → Nat} {i : Nat} {x : Nat → Nat} : un_paths G (vm_u a i x) (i + 1) = un_paths G a i ++ un_path G x := by
  rw [un_paths, vm_u_s, un_paths_cg (fun j hj m _ => by rw [vm_u_n (by omega)])]
theorem un_rows_u {G : un_G} {a : Nat → Nat → Nat} {i : Nat} {x : Nat → Nat} : un_rows G (vm_u a i x) (i + 1) = un_rows G a i ++ un_row G x := by
  rw [un_rows, vm_u_s, un_rows_cg (fun j hj => by rw [vm_u_n (by omega)])]
/-- the first i of an array's places are set -/
def un_rf (a : Nat → Nat → Nat) (i : Nat) : Nat → Option Nat := fun j => if j < i then some (a j 0) else none
theorem un_rf_u {a : Nat → Nat → Nat} {i : Nat} {x : Nat → Nat} : va_up (un_rf a i) i (some (x 0)) = un_rf (vm_u a i x) (i + 1) := by
  funext j
  unfold va_up un_rf
  by_cases h : j = i
  · subst h
    rw [if_pos rfl, if_pos (by omega), vm_u_s]
  · rw [if_neg h]
    by_cases h2 : j < i
    · rw [if_pos h2, if_pos (by omega), vm_u_n h]
    · rw [if_neg h2, if_neg (by omega)]
theorem un_rf_0 (a : Nat → Nat → Nat) : un_rf a 0 = fun _ => none := by
  funext j
  unfold un_rf
  rw [if_neg (Nat.not_lt_zero _)]
def un_past (G : un_G) (a : Nat → Nat) : va_W := (a 0, .inr (1, [.ref (a 1), .int 0, .int 0])) :: (a 1, .inl (G.2.2.1 13, 24, .inr (.inr (.inr (.inr (un_rf (fun j m => a (2 + 6 * j + m)) 24)))))) :: un_paths G (fun j m => a (2 + 6 * j + m)) 24
theorem un_rf_cg {a b : Nat → Nat → Nat} {n : Nat} (h : ∀ j, j < n → a j 0 = b j 0) : un_rf a n = un_rf b n := by
  funext j
  unfold un_rf
  by_cases hj : j < n
  · rw [if_pos hj, if_pos hj, h j hj]
  · rw [if_neg hj, if_neg hj]
theorem un_past_eq {G : un_G} {h0 q : Nat} {a : Nat → Nat → Nat} : un_past G (fun k => if k = 0 then h0 else if k = 1 then q else a ((k - 2) / 6) ((k - 2) % 6)) = (h0, .inr (1, [.ref q, .int 0, .int 0])) :: (q, .inl (G.2.2.1 13, 24, .inr (.inr (.inr (.inr (un_rf a 24)))))) :: un_paths G a 24 := by
  have e : ∀ j, ∀ m, m < 6 → (if 2 + 6 * j + m = 0 then h0 else if 2 + 6 * j + m = 1 then q else a ((2 + 6 * j + m - 2) / 6) ((2 + 6 * j + m - 2) % 6)) = a j m := fun j m hm => by
    rw [if_neg (by omega), if_neg (by omega), show (2 + 6 * j + m - 2) / 6 = j by omega, show (2 + 6 * j + m - 2) % 6 = m by omega]
  unfold un_past
  rw [un_rf_cg (b := a) (fun j _ => e j 0 (by omega)), un_paths_cg (b := a) (fun j _ m hm => e j m hm)]
  rfl
set_option maxHeartbeats 400000 in
set_option maxRecDepth 100000 in
theorem n_past {G : un_G} (w : va_W) (h0 : Nat) : un_RC G 2 145 984 mX1_init [] (.inr (1, [.null, .int 0, .int 0])) w h0 (un_past G) := by
  refine un_init (y := mX1_init) (args := [.ref h0]) (by decide) rfl (Nat.le_of_ble_eq_true rfl) rfl (fun C F hnam K => ?_)
  have F : un_F G C cX1_init RX1 _ 2 145 984 := F
  show un_Ex G C _ 0 [(0, .ref h0)] [] (un_O w h0 1 [.null, .int 0, .int 0] []) 0 0
  refine un_aload F 0 dX1_init_0 rfl ?_
  refine un_obj F (vm_mem 177 (by decide +kernel) (by decide +kernel)) oi_1 oi_2 (by decide) dX1_init_1 (Nat.le_of_ble_eq_true rfl) ?_
  refine un_aload F 0 dX1_init_4 rfl ?_
  refine un_bipush F (nI 24) dX1_init_5 (by decide) ?_
  refine uo_newq 4 13 24 F (vm_mem 178 (by decide +kernel) (by decide +kernel)) (F.2.2.2.2.2.2.1.2.1) rfl (nI_pos (by omega)) (nI_clamp (by omega)) (Nat.le_of_ble_eq_true rfl) (Nat.le_of_ble_eq_true rfl) (Nat.le_of_ble_eq_true rfl) dX1_init_7 (fun q_7 => ?_)
  refine uo_putF 0 F hnam inX1 tyX1_ok nmX1 rfl (by decide) rfl rfl (vm_mem 180 (by decide +kernel) (by decide +kernel)) rfl rfl rfl (by simp) dX1_init_10 ?_
  refine un_aload F 0 dX1_init_13 rfl ?_
  refine un_iconst F (nI 0) dX1_init_14 (by decide) ?_
  refine uo_put 1 F inX1 tyX1_ok nmX1 rfl (by decide) rfl (vm_mem 181 (by decide +kernel) (by decide +kernel)) rfl rfl rfl (by simp) dX1_init_15 ?_
  refine un_aload F 0 dX1_init_18 rfl ?_
  refine un_iconst F (nI 0) dX1_init_19 (by decide) ?_
  refine uo_put 2 F inX1 tyX1_ok nmX1 rfl (by decide) rfl (vm_mem 182 (by decide +kernel) (by decide +kernel)) rfl rfl rfl (by simp) dX1_init_20 ?_
  refine un_iconst F (nI 0) dX1_init_23 (by decide) ?_
  refine un_istore F dX1_init_24 (by decide) rfl ?_
  have LP : ∀ k i, i + k = 24 → ∀ a : Nat → Nat → Nat, un_Ex G C 2 25 [(1, .int (nI i)), (0, .ref h0)] [] (un_O w h0 1 [.ref q_7, .int 0, .int 0] ([] ++ (q_7, .inl (G.2.2.1 13, 24, .inr (.inr (.inr (.inr (un_rf a i)))))) :: ([] ++ un_paths G a i))) (1 + 6 * i) (24 + 40 * i) := by
    intro k
    induction k with
    | zero =>
      intro i hi a
      refine un_iload F 0 dX1_init_25 rfl ?_
      refine un_bipush F (nI 24) dX1_init_26 (by decide) ?_
      refine un_ge F 50 dX1_init_28 (by decide) (by omega) (by omega) (fun c_28 => ?_) (fun c_28 => ?_)
      · have ei : i = 24 := by omega
        subst ei
        refine K _ _ _ ⟨fun k => if k = 0 then h0 else if k = 1 then q_7 else a ((k - 2) / 6) ((k - 2) % 6), rfl, ?_⟩ dX1_init_50
        rw [un_past_eq]
        simp only [List.nil_append]
      · omega
    | succ k ih =>
      intro i hi a
      refine un_iload F 0 dX1_init_25 rfl ?_
      refine un_bipush F (nI 24) dX1_init_26 (by decide) ?_
      refine un_ge F 50 dX1_init_28 (by decide) (by omega) (by omega) (fun c_28 => ?_) (fun c_28 => ?_)
      · omega
      · refine un_aload F 1 dX1_init_31 rfl ?_
        refine uo_get 0 F inX1 rfl (by decide) rfl (vm_mem 180 (by decide +kernel) (by decide +kernel)) rfl dX1_init_32 ?_
        refine un_iload F 0 dX1_init_35 rfl ?_
        refine uo_new (ci2 := 2) (fs2 := [.null, .null, .null, .null, .null, .int 0, .int 0, .int 0, .int 0, .int 0]) (ty := tyX2) F inX2 tyX2_ok rfl (vm_mem 178 (by decide +kernel) (by decide +kernel)) (vm_mem 120 (by decide +kernel) (by decide +kernel)) (vm_mem 51 (by decide +kernel) (by decide +kernel)) df_2 (by omega) (by omega) dX1_init_36 (fun q_36 => ?_)
        refine un_dup F dX1_init_39 rfl ?_
        refine uo_cn kI_X2 F (F.2.2.2.2.2.2.1.2.2.2.2.2.2.2.1) (n_path _ _) rfl (by decide) rfl (Nat.le_of_ble_eq_true rfl) (by omega) (by omega) dX1_init_40 (fun a_40 e_40 => ?_)
        obtain rfl := e_40
        refine uo_aast (A := []) (B := []) (S := un_paths G a i) 4 13 F rfl rfl rfl (by omega) (by omega) dX1_init_43 ?_
        rw [un_rf_u, ← un_paths_u]
        refine un_iinc F dX1_init_44 (j := 0) rfl (nI_inc _) (by decide) rfl ?_
        refine un_goto F 25 dX1_init_47 (by decide) ?_
        refine un_kn (1 + 6 * (i + 1)) (24 + 40 * (i + 1)) (by omega) (by omega) ?_
        exact ih (i + 1) (by omega) (vm_u a i a_40)
  refine un_L ([] ++ (q_7, .inl (G.2.2.1 13, 24, .inr (.inr (.inr (.inr (un_rf (fun _ _ => 0) 0)))))) :: ([] ++ un_paths G (fun _ _ => 0) 0)) (by rw [un_rf_0]; rfl) ?_
  exact LP 24 0 (by omega) (fun _ _ => 0)
def un_all (G : un_G) (h0 q1 q23 q24 : Nat) (aR a5 a11 a17 aP aX aF : Nat → Nat) (ar ai : Nat → Nat → Nat) : va_W :=
  (h0, .inr (7, [.ref q1, .ref (aR 0), .ref (a5 0), .ref (a11 0), .ref (a17 0), .ref q23, .ref q24, .ref (aP 0), .ref (aX 0), .ref (aF 0), .int 0, .int 0, .int 0])) :: (q1, .inl (G.2.2.1 12, 8, .inr (.inr (.inr (.inr (un_rf ar 8)))))) ::
    (un_read G aR ++ (un_path G a5 ++ (un_path G a11 ++ (un_path G a17 ++ ((q23, .inl (G.2.2.1 13, 2, .inr (.inr (.inr (.inr (un_rf ai 2)))))) :: (q24, .inl (G.2.2.1 11, 2, .inl (fun _ => 0))) :: (un_past G aP ++ (un_trace G aX ++ (un_fits aF ++ (un_rows G ar 8 ++ un_paths G ai 2)))))))))
set_option maxHeartbeats 400000 in
set_option maxRecDepth 100000 in
theorem n_all {G : un_G} (w : va_W) (h0 : Nat) : un_RV G 3 201 1979 mX7_init [.ref h0] (w ++ [(h0, .inr (7, [.null, .null, .null, .null, .null, .null, .null, .null, .null, .null, .int 0, .int 0, .int 0]))]) (fun ws' => ∃ q1 q23 q24 aR a5 a11 a17 aP aX aF ar ai, ws' = w ++ un_all G h0 q1 q23 q24 aR a5 a11 a17 aP aX aF ar ai) := by
  refine un_init (y := mX7_init) (args := [.ref h0]) (by decide) rfl (Nat.le_of_ble_eq_true rfl) rfl (fun C F hnam K => ?_)
  have F : un_F G C cX7_init RX7 _ 3 201 1979 := F
  show un_Ex G C _ 0 [(0, .ref h0)] [] (un_O w h0 7 [.null, .null, .null, .null, .null, .null, .null, .null, .null, .null, .int 0, .int 0, .int 0] []) 0 0
  refine un_aload F 0 dX7_init_0 rfl ?_
  refine un_obj F (vm_mem 69 (by decide +kernel) (by decide +kernel)) oi_1 oi_2 (by decide) dX7_init_1 (Nat.le_of_ble_eq_true rfl) ?_
  refine un_aload F 0 dX7_init_4 rfl ?_
  refine un_bipush F (nI 8) dX7_init_5 (by decide) ?_
  refine uo_newq 3 12 8 F (vm_mem 72 (by decide +kernel) (by decide +kernel)) (F.2.2.2.2.2.2.1.1) rfl (nI_pos (by omega)) (nI_clamp (by omega)) (Nat.le_of_ble_eq_true rfl) (Nat.le_of_ble_eq_true rfl) (Nat.le_of_ble_eq_true rfl) dX7_init_7 (fun q_7 => ?_)
  refine uo_putF 0 F hnam inX7 tyX7_ok nmX7 rfl (by decide) rfl rfl (vm_mem 244 (by decide +kernel) (by decide +kernel)) rfl rfl rfl (by simp) dX7_init_10 ?_
  refine un_aload F 0 dX7_init_13 rfl ?_
  refine uo_new (ci2 := 3) (fs2 := [.null, .int 0, .int 0, .int 0, .int 0, .int 0]) (ty := tyX3) F inX3 tyX3_ok rfl (vm_mem 74 (by decide +kernel) (by decide +kernel)) (vm_mem 75 (by decide +kernel) (by decide +kernel)) (vm_mem 49 (by decide +kernel) (by decide +kernel)) df_3 (Nat.le_of_ble_eq_true rfl) (Nat.le_of_ble_eq_true rfl) dX7_init_14 (fun q_14 => ?_)
  refine un_dup F dX7_init_17 rfl ?_
  refine uo_cn kI_X3 F (F.2.2.2.2.2.2.1.2.2.1) (n_read _ _) rfl (by decide) rfl (Nat.le_of_ble_eq_true rfl) (Nat.le_of_ble_eq_true rfl) (Nat.le_of_ble_eq_true rfl) dX7_init_18 (fun a_18 e_18 => ?_)
  obtain rfl := e_18
  refine uo_putF 1 F hnam inX7 tyX7_ok nmX7 rfl (by decide) rfl rfl (vm_mem 245 (by decide +kernel) (by decide +kernel)) rfl rfl rfl (by simp) dX7_init_21 ?_
  refine un_aload F 0 dX7_init_24 rfl ?_
  refine uo_new (ci2 := 2) (fs2 := [.null, .null, .null, .null, .null, .int 0, .int 0, .int 0, .int 0, .int 0]) (ty := tyX2) F inX2 tyX2_ok rfl (vm_mem 119 (by decide +kernel) (by decide +kernel)) (vm_mem 120 (by decide +kernel) (by decide +kernel)) (vm_mem 51 (by decide +kernel) (by decide +kernel)) df_2 (Nat.le_of_ble_eq_true rfl) (Nat.le_of_ble_eq_true rfl) dX7_init_25 (fun q_25 => ?_)
  refine un_dup F dX7_init_28 rfl ?_
  refine uo_cn kI_X2 F (F.2.2.2.2.2.2.1.2.2.2.1) (n_path _ _) rfl (by decide) rfl (Nat.le_of_ble_eq_true rfl) (Nat.le_of_ble_eq_true rfl) (Nat.le_of_ble_eq_true rfl) dX7_init_29 (fun a_29 e_29 => ?_)
  obtain rfl := e_29
  refine uo_putF 2 F hnam inX7 tyX7_ok nmX7 rfl (by decide) rfl rfl (vm_mem 246 (by decide +kernel) (by decide +kernel)) rfl rfl rfl (by simp) dX7_init_32 ?_
  refine un_aload F 0 dX7_init_35 rfl ?_
  refine uo_new (ci2 := 2) (fs2 := [.null, .null, .null, .null, .null, .int 0, .int 0, .int 0, .int 0, .int 0]) (ty := tyX2) F inX2 tyX2_ok rfl (vm_mem 119 (by decide +kernel) (by decide +kernel)) (vm_mem 120 (by decide +kernel) (by decide +kernel)) (vm_mem 51 (by decide +kernel) (by decide +kernel)) df_2 (Nat.le_of_ble_eq_true rfl) (Nat.le_of_ble_eq_true rfl) dX7_init_36 (fun q_36 => ?_)
  refine un_dup F dX7_init_39 rfl ?_
  refine uo_cn kI_X2 F (F.2.2.2.2.2.2.1.2.2.2.1) (n_path _ _) rfl (by decide) rfl (Nat.le_of_ble_eq_true rfl) (Nat.le_of_ble_eq_true rfl) (Nat.le_of_ble_eq_true rfl) dX7_init_40 (fun a_40 e_40 => ?_)
  obtain rfl := e_40
  refine uo_putF 3 F hnam inX7 tyX7_ok nmX7 rfl (by decide) rfl rfl (vm_mem 247 (by decide +kernel) (by decide +kernel)) rfl rfl rfl (by simp) dX7_init_43 ?_
  refine un_aload F 0 dX7_init_46 rfl ?_
  refine uo_new (ci2 := 2) (fs2 := [.null, .null, .null, .null, .null, .int 0, .int 0, .int 0, .int 0, .int 0]) (ty := tyX2) F inX2 tyX2_ok rfl (vm_mem 119 (by decide +kernel) (by decide +kernel)) (vm_mem 120 (by decide +kernel) (by decide +kernel)) (vm_mem 51 (by decide +kernel) (by decide +kernel)) df_2 (Nat.le_of_ble_eq_true rfl) (Nat.le_of_ble_eq_true rfl) dX7_init_47 (fun q_47 => ?_)
  refine un_dup F dX7_init_50 rfl ?_
  refine uo_cn kI_X2 F (F.2.2.2.2.2.2.1.2.2.2.1) (n_path _ _) rfl (by decide) rfl (Nat.le_of_ble_eq_true rfl) (Nat.le_of_ble_eq_true rfl) (Nat.le_of_ble_eq_true rfl) dX7_init_51 (fun a_51 e_51 => ?_)
  obtain rfl := e_51
  refine uo_putF 4 F hnam inX7 tyX7_ok nmX7 rfl (by decide) rfl rfl (vm_mem 248 (by decide +kernel) (by decide +kernel)) rfl rfl rfl (by simp) dX7_init_54 ?_
  refine un_aload F 0 dX7_init_57 rfl ?_
  refine un_iconst F (nI 2) dX7_init_58 (by decide) ?_
  refine uo_newq 4 13 2 F (vm_mem 119 (by decide +kernel) (by decide +kernel)) (F.2.2.2.2.2.2.1.2.1) rfl (nI_pos (by omega)) (nI_clamp (by omega)) (Nat.le_of_ble_eq_true rfl) (Nat.le_of_ble_eq_true rfl) (Nat.le_of_ble_eq_true rfl) dX7_init_59 (fun q_59 => ?_)
  refine uo_putF 5 F hnam inX7 tyX7_ok nmX7 rfl (by decide) rfl rfl (vm_mem 249 (by decide +kernel) (by decide +kernel)) rfl rfl rfl (by simp) dX7_init_62 ?_
  refine un_aload F 0 dX7_init_65 rfl ?_
  refine un_iconst F (nI 2) dX7_init_66 (by decide) ?_
  refine uo_newa (ty := .boolean) 2 11 2 F (vm_mem 191 (by decide +kernel) (by decide +kernel)) rfl rfl na_11 (nI_pos (by omega)) (nI_clamp (by omega)) (Nat.le_of_ble_eq_true rfl) (Nat.le_of_ble_eq_true rfl) (Nat.le_of_ble_eq_true rfl) dX7_init_67 (fun q_67 => ?_)
  refine uo_putF 6 F hnam inX7 tyX7_ok nmX7 rfl (by decide) rfl rfl (vm_mem 250 (by decide +kernel) (by decide +kernel)) rfl rfl rfl (by simp) dX7_init_69 ?_
  refine un_aload F 0 dX7_init_72 rfl ?_
  refine uo_new (ci2 := 1) (fs2 := [.null, .int 0, .int 0]) (ty := tyX1) F inX1 tyX1_ok rfl (vm_mem 172 (by decide +kernel) (by decide +kernel)) (vm_mem 173 (by decide +kernel) (by decide +kernel)) (vm_mem 52 (by decide +kernel) (by decide +kernel)) df_1 (Nat.le_of_ble_eq_true rfl) (Nat.le_of_ble_eq_true rfl) dX7_init_73 (fun q_73 => ?_)
  refine un_dup F dX7_init_76 rfl ?_
  refine uo_ci kI_X1 (vm_mem 174 (by decide +kernel) (by decide +kernel)) F (n_past _ _) rfl (by decide) rfl (Nat.le_of_ble_eq_true rfl) (Nat.le_of_ble_eq_true rfl) (Nat.le_of_ble_eq_true rfl) dX7_init_77 (fun a_77 e_77 => ?_)
  obtain rfl := e_77
  refine uo_putF 7 F hnam inX7 tyX7_ok nmX7 rfl (by decide) rfl rfl (vm_mem 251 (by decide +kernel) (by decide +kernel)) rfl rfl rfl (by simp) dX7_init_80 ?_
  refine un_aload F 0 dX7_init_83 rfl ?_
  refine uo_new (ci2 := 6) (fs2 := [.null, .int 0]) (ty := tyX6) F inX6 tyX6_ok rfl (vm_mem 192 (by decide +kernel) (by decide +kernel)) (vm_mem 193 (by decide +kernel) (by decide +kernel)) (vm_mem 53 (by decide +kernel) (by decide +kernel)) df_6 (Nat.le_of_ble_eq_true rfl) (Nat.le_of_ble_eq_true rfl) dX7_init_84 (fun q_84 => ?_)
  refine un_dup F dX7_init_87 rfl ?_
  refine uo_cn kI_X6 F (F.2.2.2.2.2.2.1.2.2.2.2.1) (n_trace _ _) rfl (by decide) rfl (Nat.le_of_ble_eq_true rfl) (Nat.le_of_ble_eq_true rfl) (Nat.le_of_ble_eq_true rfl) dX7_init_88 (fun a_88 e_88 => ?_)
  obtain rfl := e_88
  refine uo_putF 8 F hnam inX7 tyX7_ok nmX7 rfl (by decide) rfl rfl (vm_mem 252 (by decide +kernel) (by decide +kernel)) rfl rfl rfl (by simp) dX7_init_91 ?_
  refine un_aload F 0 dX7_init_94 rfl ?_
  refine uo_new (ci2 := 0) (fs2 := [.int 0, .int 0]) (ty := tyX0) F inX0 tyX0_ok rfl (vm_mem 207 (by decide +kernel) (by decide +kernel)) (vm_mem 208 (by decide +kernel) (by decide +kernel)) (vm_mem 54 (by decide +kernel) (by decide +kernel)) df_0 (Nat.le_of_ble_eq_true rfl) (Nat.le_of_ble_eq_true rfl) dX7_init_95 (fun q_95 => ?_)
  refine un_dup F dX7_init_98 rfl ?_
  refine uo_cn kI_X0 F (F.2.2.2.2.2.2.1.2.2.2.2.2.1) (n_fits _ _) rfl (by decide) rfl (Nat.le_of_ble_eq_true rfl) (Nat.le_of_ble_eq_true rfl) (Nat.le_of_ble_eq_true rfl) dX7_init_99 (fun a_99 e_99 => ?_)
  obtain rfl := e_99
  refine uo_putF 9 F hnam inX7 tyX7_ok nmX7 rfl (by decide) rfl rfl (vm_mem 253 (by decide +kernel) (by decide +kernel)) rfl rfl rfl (by simp) dX7_init_102 ?_
  refine un_aload F 0 dX7_init_105 rfl ?_
  refine un_iconst F (nI 0) dX7_init_106 (by decide) ?_
  refine uo_put 10 F inX7 tyX7_ok nmX7 rfl (by decide) rfl (vm_mem 254 (by decide +kernel) (by decide +kernel)) rfl rfl rfl (by simp) dX7_init_107 ?_
  refine un_aload F 0 dX7_init_110 rfl ?_
  refine un_iconst F (nI 0) dX7_init_111 (by decide) ?_
  refine uo_put 11 F inX7 tyX7_ok nmX7 rfl (by decide) rfl (vm_mem 255 (by decide +kernel) (by decide +kernel)) rfl rfl rfl (by simp) dX7_init_112 ?_
  refine un_aload F 0 dX7_init_115 rfl ?_
  refine un_iconst F (nI 0) dX7_init_116 (by decide) ?_
  refine uo_put 12 F inX7 tyX7_ok nmX7 rfl (by decide) rfl (vm_mem 256 (by decide +kernel) (by decide +kernel)) rfl rfl rfl (by simp) dX7_init_117 ?_
  refine un_iconst F (nI 0) dX7_init_120 (by decide) ?_
  refine un_istore F dX7_init_121 (by decide) rfl ?_
  have LI : ∀ ar : Nat → Nat → Nat, ∀ A B : va_W, A = (q_7, .inl (G.2.2.1 12, 8, .inr (.inr (.inr (.inr (un_rf ar 8)))))) :: (un_read G a_18 ++ (un_path G a_29 ++ (un_path G a_40 ++ un_path G a_51))) → B = (q_67, .inl (G.2.2.1 11, 2, .inl (fun _ => 0))) :: ((un_past G a_77 ++ (un_trace G a_88 ++ un_fits a_99)) ++ un_rows G ar 8) → ∀ k i, i + k = 2 → ∀ a : Nat → Nat → Nat, un_Ex G C 2 149 [(1, .int (nI i)), (0, .ref h0)] [] (un_O w h0 7 [.ref q_7, .ref (a_18 0), .ref (a_29 0), .ref (a_40 0), .ref (a_51 0), .ref q_59, .ref q_67, .ref (a_77 0), .ref (a_88 0), .ref (a_99 0), .int 0, .int 0, .int 0] (A ++ (q_59, .inl (G.2.2.1 13, 2, .inr (.inr (.inr (.inr (un_rf a i)))))) :: (B ++ un_paths G a i))) (189 + 6 * i) (1899 + 40 * i) := by
    intro ar A B hA hB k
    induction k with
    | zero =>
      intro i hi a
      refine un_iload F 0 dX7_init_149 rfl ?_
      refine un_iconst F (nI 2) dX7_init_150 (by decide) ?_
      refine un_ge F 173 dX7_init_151 (by decide) (by omega) (by omega) (fun c_151 => ?_) (fun c_151 => ?_)
      · have ei : i = 2 := by omega
        subst ei
        refine K _ _ _ ⟨q_7, q_59, q_67, a_18, a_29, a_40, a_51, a_77, a_88, a_99, ar, a, ?_⟩ dX7_init_173
        subst hA hB
        unfold un_all
        simp
      · omega
    | succ k ih =>
      intro i hi a
      refine un_iload F 0 dX7_init_149 rfl ?_
      refine un_iconst F (nI 2) dX7_init_150 (by decide) ?_
      refine un_ge F 173 dX7_init_151 (by decide) (by omega) (by omega) (fun c_151 => ?_) (fun c_151 => ?_)
      · omega
      · refine un_aload F 1 dX7_init_154 rfl ?_
        refine uo_get 5 F inX7 rfl (by decide) rfl (vm_mem 249 (by decide +kernel) (by decide +kernel)) rfl dX7_init_155 ?_
        refine un_iload F 0 dX7_init_158 rfl ?_
        refine uo_new (ci2 := 2) (fs2 := [.null, .null, .null, .null, .null, .int 0, .int 0, .int 0, .int 0, .int 0]) (ty := tyX2) F inX2 tyX2_ok rfl (vm_mem 119 (by decide +kernel) (by decide +kernel)) (vm_mem 120 (by decide +kernel) (by decide +kernel)) (vm_mem 51 (by decide +kernel) (by decide +kernel)) df_2 (by omega) (by omega) dX7_init_159 (fun q_159 => ?_)
        refine un_dup F dX7_init_162 rfl ?_
        refine uo_cn kI_X2 F (F.2.2.2.2.2.2.1.2.2.2.1) (n_path _ _) rfl (by decide) rfl (Nat.le_of_ble_eq_true rfl) (by omega) (by omega) dX7_init_163 (fun a_163 e_163 => ?_)
        obtain rfl := e_163
        refine uo_aast (A := A) (B := B) (S := un_paths G a i) 4 13 F rfl rfl rfl (by omega) (by omega) dX7_init_166 ?_
        rw [un_rf_u, ← un_paths_u]
        refine un_iinc F dX7_init_167 (j := 0) rfl (nI_inc _) (by decide) rfl ?_
        refine un_goto F 149 dX7_init_170 (by decide) ?_
        refine un_kn (189 + 6 * (i + 1)) (1899 + 40 * (i + 1)) (by omega) (by omega) ?_
        exact ih (i + 1) (by omega) (vm_u a i a_163)
  obtain ⟨M, hM⟩ : ∃ M : va_W, M = (un_read G a_18 ++ (un_path G a_29 ++ (un_path G a_40 ++ un_path G a_51))) ++ (q_59, .inl (G.2.2.1 13, 2, .inr (.inr (.inr (.inr (fun _ => none)))))) :: (q_67, .inl (G.2.2.1 11, 2, .inl (fun _ => 0))) :: (un_past G a_77 ++ (un_trace G a_88 ++ un_fits a_99)) := ⟨_, rfl⟩
  have LR : ∀ k i, i + k = 8 → ∀ a : Nat → Nat → Nat, un_Ex G C 2 122 [(1, .int (nI i)), (0, .ref h0)] [] (un_O w h0 7 [.ref q_7, .ref (a_18 0), .ref (a_29 0), .ref (a_40 0), .ref (a_51 0), .ref q_59, .ref q_67, .ref (a_77 0), .ref (a_88 0), .ref (a_99 0), .int 0, .int 0, .int 0] ([] ++ (q_7, .inl (G.2.2.1 12, 8, .inr (.inr (.inr (.inr (un_rf a i)))))) :: (M ++ un_rows G a i))) (173 + 2 * i) (1547 + 44 * i) := by
    intro k
    induction k with
    | zero =>
      intro i hi a
      refine un_iload F 0 dX7_init_122 rfl ?_
      refine un_bipush F (nI 8) dX7_init_123 (by decide) ?_
      refine un_ge F 147 dX7_init_125 (by decide) (by omega) (by omega) (fun c_125 => ?_) (fun c_125 => ?_)
      · have ei : i = 8 := by omega
        subst ei
        refine un_iconst F (nI 0) dX7_init_147 (by decide) ?_
        refine un_istore F dX7_init_148 (by decide) rfl ?_
        refine un_L (((q_7, .inl (G.2.2.1 12, 8, .inr (.inr (.inr (.inr (un_rf a 8)))))) :: (un_read G a_18 ++ (un_path G a_29 ++ (un_path G a_40 ++ un_path G a_51)))) ++ (q_59, .inl (G.2.2.1 13, 2, .inr (.inr (.inr (.inr (un_rf (fun _ _ => 0) 0)))))) :: (((q_67, .inl (G.2.2.1 11, 2, .inl (fun _ => 0))) :: ((un_past G a_77 ++ (un_trace G a_88 ++ un_fits a_99)) ++ un_rows G a 8)) ++ un_paths G (fun _ _ => 0) 0)) (by rw [un_rf_0]; subst hM; simp [un_paths]) ?_
        exact LI a _ _ rfl rfl 2 0 (by omega) (fun _ _ => 0)
      · omega
    | succ k ih =>
      intro i hi a
      refine un_iload F 0 dX7_init_122 rfl ?_
      refine un_bipush F (nI 8) dX7_init_123 (by decide) ?_
      refine un_ge F 147 dX7_init_125 (by decide) (by omega) (by omega) (fun c_125 => ?_) (fun c_125 => ?_)
      · omega
      · refine un_aload F 1 dX7_init_128 rfl ?_
        refine uo_get 0 F inX7 rfl (by decide) rfl (vm_mem 244 (by decide +kernel) (by decide +kernel)) rfl dX7_init_129 ?_
        refine un_iload F 0 dX7_init_132 rfl ?_
        refine uo_new (ci2 := 4) (fs2 := [.null, .int 0, .int 0, .int 0]) (ty := tyX4) F inX4 tyX4_ok rfl (vm_mem 72 (by decide +kernel) (by decide +kernel)) (vm_mem 221 (by decide +kernel) (by decide +kernel)) (vm_mem 55 (by decide +kernel) (by decide +kernel)) df_4 (by omega) (by omega) dX7_init_133 (fun q_133 => ?_)
        refine un_dup F dX7_init_136 rfl ?_
        refine uo_cn kI_X4 F (F.2.2.2.2.2.2.1.2.2.2.2.2.2.1) (n_row _ _) rfl (by decide) rfl (Nat.le_of_ble_eq_true rfl) (by omega) (by omega) dX7_init_137 (fun a_137 e_137 => ?_)
        obtain rfl := e_137
        refine uo_aast (A := []) (B := M) (S := un_rows G a i) 3 12 F rfl rfl rfl (by omega) (by omega) dX7_init_140 ?_
        rw [un_rf_u, ← un_rows_u]
        refine un_iinc F dX7_init_141 (j := 0) rfl (nI_inc _) (by decide) rfl ?_
        refine un_goto F 122 dX7_init_144 (by decide) ?_
        refine un_kn (173 + 2 * (i + 1)) (1547 + 44 * (i + 1)) (by omega) (by omega) ?_
        exact ih (i + 1) (by omega) (vm_u a i a_137)
  refine un_L ([] ++ (q_7, .inl (G.2.2.1 12, 8, .inr (.inr (.inr (.inr (un_rf (fun _ _ => 0) 0)))))) :: (M ++ un_rows G (fun _ _ => 0) 0)) (by rw [un_rf_0]; subst hM; simp [un_rows]) ?_
  exact LR 8 0 (by omega) (fun _ _ => 0)
def un_lanes : Nat → Int32 := (upd (upd (upd (upd (upd (upd (upd (upd (fun _ => 0) 0 (-1000000)) 1 (-1000000)) 2 (-1000000)) 3 (-1000000)) 4 (-1000000)) 5 (-1000000)) 6 (-1000000)) 7 (-1000000))
def un_model (G : un_G) (h0 : Nat) (b : Nat → Nat) : va_W := [(h0, .inr (8, [.ref (b 0), .ref (b 1), .int 0, .ref (b 2), .int 0, .int 0, .int 0, .ref (b 3), .ref (b 4), .ref (b 5), .ref (b 6), .int 0, .int 0, .int 0, .int 0, .int 0, .int 0, .ref (b 7), .int 0, .int 0, .int 0])), (b 0, .inl (G.2.2.1 9, 124, .inl (fun _ => 0))), (b 1, .inl (G.2.2.1 9, 336, .inl (fun _ => 0))), (b 2, .inl (G.2.2.1 9, 400, .inl (fun _ => 0))), (b 3, .inl (G.2.2.1 9, 8, .inl un_lanes)), (b 4, .inl (G.2.2.1 9, 8, .inl (fun _ => 0))), (b 5, .inl (G.2.2.1 9, 320, .inl (fun _ => 0))), (b 6, .inl (G.2.2.1 9, 16, .inl (fun _ => 0))), (b 7, .inl (G.2.2.1 9, 24, .inl (fun _ => 0)))]
set_option maxHeartbeats 400000 in
set_option maxRecDepth 100000 in
theorem n_model {G : un_G} (w : va_W) (h0 : Nat) : un_RV G 1 8 1236 mX8_init [.ref h0] (w ++ [(h0, .inr (8, [.null, .null, .int 0, .null, .int 0, .int 0, .int 0, .null, .null, .null, .null, .int 0, .int 0, .int 0, .int 0, .int 0, .int 0, .null, .int 0, .int 0, .int 0]))]) (fun ws' => ∃ b : Nat → Nat, ws' = w ++ un_model G h0 b) := by
  refine un_init (y := mX8_init) (args := [.ref h0]) (by decide) rfl (Nat.le_of_ble_eq_true rfl) rfl (fun C F hnam K => ?_)
  have F : un_F G C cX8_init RX8 _ 1 8 1236 := F
  show un_Ex G C _ 0 [(0, .ref h0)] [] (un_O w h0 8 [.null, .null, .int 0, .null, .int 0, .int 0, .int 0, .null, .null, .null, .null, .int 0, .int 0, .int 0, .int 0, .int 0, .int 0, .null, .int 0, .int 0, .int 0] []) 0 0
  refine un_aload F 0 dX8_init_0 rfl ?_
  refine un_obj F (vm_mem 687 (by decide +kernel) (by decide +kernel)) oi_1 oi_2 (by decide) dX8_init_1 (Nat.le_of_ble_eq_true rfl) ?_
  refine un_aload F 0 dX8_init_4 rfl ?_
  refine un_bipush F (nI 124) dX8_init_5 (by decide) ?_
  refine uo_newa (ty := .int) 0 9 124 F (vm_mem 170 (by decide +kernel) (by decide +kernel)) rfl rfl na_9 (nI_pos (by omega)) (nI_clamp (by omega)) (Nat.le_of_ble_eq_true rfl) (Nat.le_of_ble_eq_true rfl) (Nat.le_of_ble_eq_true rfl) dX8_init_7 (fun q_7 => ?_)
  refine uo_putF 0 F hnam inX8 tyX8_ok nmX8 rfl (by decide) rfl rfl (vm_mem 689 (by decide +kernel) (by decide +kernel)) rfl rfl rfl (by simp) dX8_init_9 ?_
  refine un_aload F 0 dX8_init_12 rfl ?_
  refine un_sipush F (nI 336) dX8_init_13 (by decide) ?_
  refine uo_newa (ty := .int) 0 9 336 F (vm_mem 170 (by decide +kernel) (by decide +kernel)) rfl rfl na_9 (nI_pos (by omega)) (nI_clamp (by omega)) (Nat.le_of_ble_eq_true rfl) (Nat.le_of_ble_eq_true rfl) (Nat.le_of_ble_eq_true rfl) dX8_init_16 (fun q_16 => ?_)
  refine uo_putF 1 F hnam inX8 tyX8_ok nmX8 rfl (by decide) rfl rfl (vm_mem 690 (by decide +kernel) (by decide +kernel)) rfl rfl rfl (by simp) dX8_init_18 ?_
  refine un_aload F 0 dX8_init_21 rfl ?_
  refine un_sipush F (nI 400) dX8_init_22 (by decide) ?_
  refine uo_newa (ty := .int) 0 9 400 F (vm_mem 170 (by decide +kernel) (by decide +kernel)) rfl rfl na_9 (nI_pos (by omega)) (nI_clamp (by omega)) (Nat.le_of_ble_eq_true rfl) (Nat.le_of_ble_eq_true rfl) (Nat.le_of_ble_eq_true rfl) dX8_init_25 (fun q_25 => ?_)
  refine uo_putF 3 F hnam inX8 tyX8_ok nmX8 rfl (by decide) rfl rfl (vm_mem 692 (by decide +kernel) (by decide +kernel)) rfl rfl rfl (by simp) dX8_init_27 ?_
  refine un_aload F 0 dX8_init_30 rfl ?_
  refine un_bipush F (nI 8) dX8_init_31 (by decide) ?_
  refine uo_newa (ty := .int) 0 9 8 F (vm_mem 170 (by decide +kernel) (by decide +kernel)) rfl rfl na_9 (nI_pos (by omega)) (nI_clamp (by omega)) (Nat.le_of_ble_eq_true rfl) (Nat.le_of_ble_eq_true rfl) (Nat.le_of_ble_eq_true rfl) dX8_init_33 (fun q_33 => ?_)
  refine un_dup F dX8_init_35 rfl ?_
  refine un_iconst F (nI 0) dX8_init_36 (by decide) ?_
  refine un_ldc F dX8_init_37 wX8_19 ?_
  refine un_iast (N' := 8) (i := 0) (f := (fun _ => 0)) (w.length + 1 + 3) F (by rw [uo_at]; rfl) (by decide) (by decide) dX8_init_39 ?_
  rw [uo_set]
  refine un_L [(q_7, .inl (G.2.2.1 9, 124, .inl (fun _ => 0))), (q_16, .inl (G.2.2.1 9, 336, .inl (fun _ => 0))), (q_25, .inl (G.2.2.1 9, 400, .inl (fun _ => 0))), (q_33, .inl (G.2.2.1 9, 8, .inl (upd (fun _ => 0) 0 (-1000000))))] rfl ?_
  refine un_dup F dX8_init_40 rfl ?_
  refine un_iconst F (nI 1) dX8_init_41 (by decide) ?_
  refine un_ldc F dX8_init_42 wX8_19 ?_
  refine un_iast (N' := 8) (i := 1) (f := (upd (fun _ => 0) 0 (-1000000))) (w.length + 1 + 3) F (by rw [uo_at]; rfl) (by decide) (by decide) dX8_init_44 ?_
  rw [uo_set]
  refine un_L [(q_7, .inl (G.2.2.1 9, 124, .inl (fun _ => 0))), (q_16, .inl (G.2.2.1 9, 336, .inl (fun _ => 0))), (q_25, .inl (G.2.2.1 9, 400, .inl (fun _ => 0))), (q_33, .inl (G.2.2.1 9, 8, .inl (upd (upd (fun _ => 0) 0 (-1000000)) 1 (-1000000))))] rfl ?_
  refine un_dup F dX8_init_45 rfl ?_
  refine un_iconst F (nI 2) dX8_init_46 (by decide) ?_
  refine un_ldc F dX8_init_47 wX8_19 ?_
  refine un_iast (N' := 8) (i := 2) (f := (upd (upd (fun _ => 0) 0 (-1000000)) 1 (-1000000))) (w.length + 1 + 3) F (by rw [uo_at]; rfl) (by decide) (by decide) dX8_init_49 ?_
  rw [uo_set]
  refine un_L [(q_7, .inl (G.2.2.1 9, 124, .inl (fun _ => 0))), (q_16, .inl (G.2.2.1 9, 336, .inl (fun _ => 0))), (q_25, .inl (G.2.2.1 9, 400, .inl (fun _ => 0))), (q_33, .inl (G.2.2.1 9, 8, .inl (upd (upd (upd (fun _ => 0) 0 (-1000000)) 1 (-1000000)) 2 (-1000000))))] rfl ?_
  refine un_dup F dX8_init_50 rfl ?_
  refine un_iconst F (nI 3) dX8_init_51 (by decide) ?_
  refine un_ldc F dX8_init_52 wX8_19 ?_
  refine un_iast (N' := 8) (i := 3) (f := (upd (upd (upd (fun _ => 0) 0 (-1000000)) 1 (-1000000)) 2 (-1000000))) (w.length + 1 + 3) F (by rw [uo_at]; rfl) (by decide) (by decide) dX8_init_54 ?_
  rw [uo_set]
  refine un_L [(q_7, .inl (G.2.2.1 9, 124, .inl (fun _ => 0))), (q_16, .inl (G.2.2.1 9, 336, .inl (fun _ => 0))), (q_25, .inl (G.2.2.1 9, 400, .inl (fun _ => 0))), (q_33, .inl (G.2.2.1 9, 8, .inl (upd (upd (upd (upd (fun _ => 0) 0 (-1000000)) 1 (-1000000)) 2 (-1000000)) 3 (-1000000))))] rfl ?_
  refine un_dup F dX8_init_55 rfl ?_
  refine un_iconst F (nI 4) dX8_init_56 (by decide) ?_
  refine un_ldc F dX8_init_57 wX8_19 ?_
  refine un_iast (N' := 8) (i := 4) (f := (upd (upd (upd (upd (fun _ => 0) 0 (-1000000)) 1 (-1000000)) 2 (-1000000)) 3 (-1000000))) (w.length + 1 + 3) F (by rw [uo_at]; rfl) (by decide) (by decide) dX8_init_59 ?_
  rw [uo_set]
  refine un_L [(q_7, .inl (G.2.2.1 9, 124, .inl (fun _ => 0))), (q_16, .inl (G.2.2.1 9, 336, .inl (fun _ => 0))), (q_25, .inl (G.2.2.1 9, 400, .inl (fun _ => 0))), (q_33, .inl (G.2.2.1 9, 8, .inl (upd (upd (upd (upd (upd (fun _ => 0) 0 (-1000000)) 1 (-1000000)) 2 (-1000000)) 3 (-1000000)) 4 (-1000000))))] rfl ?_
  refine un_dup F dX8_init_60 rfl ?_
  refine un_iconst F (nI 5) dX8_init_61 (by decide) ?_
  refine un_ldc F dX8_init_62 wX8_19 ?_
  refine un_iast (N' := 8) (i := 5) (f := (upd (upd (upd (upd (upd (fun _ => 0) 0 (-1000000)) 1 (-1000000)) 2 (-1000000)) 3 (-1000000)) 4 (-1000000))) (w.length + 1 + 3) F (by rw [uo_at]; rfl) (by decide) (by decide) dX8_init_64 ?_
  rw [uo_set]
  refine un_L [(q_7, .inl (G.2.2.1 9, 124, .inl (fun _ => 0))), (q_16, .inl (G.2.2.1 9, 336, .inl (fun _ => 0))), (q_25, .inl (G.2.2.1 9, 400, .inl (fun _ => 0))), (q_33, .inl (G.2.2.1 9, 8, .inl (upd (upd (upd (upd (upd (upd (fun _ => 0) 0 (-1000000)) 1 (-1000000)) 2 (-1000000)) 3 (-1000000)) 4 (-1000000)) 5 (-1000000))))] rfl ?_
  refine un_dup F dX8_init_65 rfl ?_
  refine un_bipush F (nI 6) dX8_init_66 (by decide) ?_
  refine un_ldc F dX8_init_68 wX8_19 ?_
  refine un_iast (N' := 8) (i := 6) (f := (upd (upd (upd (upd (upd (upd (fun _ => 0) 0 (-1000000)) 1 (-1000000)) 2 (-1000000)) 3 (-1000000)) 4 (-1000000)) 5 (-1000000))) (w.length + 1 + 3) F (by rw [uo_at]; rfl) (by decide) (by decide) dX8_init_70 ?_
  rw [uo_set]
  refine un_L [(q_7, .inl (G.2.2.1 9, 124, .inl (fun _ => 0))), (q_16, .inl (G.2.2.1 9, 336, .inl (fun _ => 0))), (q_25, .inl (G.2.2.1 9, 400, .inl (fun _ => 0))), (q_33, .inl (G.2.2.1 9, 8, .inl (upd (upd (upd (upd (upd (upd (upd (fun _ => 0) 0 (-1000000)) 1 (-1000000)) 2 (-1000000)) 3 (-1000000)) 4 (-1000000)) 5 (-1000000)) 6 (-1000000))))] rfl ?_
  refine un_dup F dX8_init_71 rfl ?_
  refine un_bipush F (nI 7) dX8_init_72 (by decide) ?_
  refine un_ldc F dX8_init_74 wX8_19 ?_
  refine un_iast (N' := 8) (i := 7) (f := (upd (upd (upd (upd (upd (upd (upd (fun _ => 0) 0 (-1000000)) 1 (-1000000)) 2 (-1000000)) 3 (-1000000)) 4 (-1000000)) 5 (-1000000)) 6 (-1000000))) (w.length + 1 + 3) F (by rw [uo_at]; rfl) (by decide) (by decide) dX8_init_76 ?_
  rw [uo_set]
  refine un_L [(q_7, .inl (G.2.2.1 9, 124, .inl (fun _ => 0))), (q_16, .inl (G.2.2.1 9, 336, .inl (fun _ => 0))), (q_25, .inl (G.2.2.1 9, 400, .inl (fun _ => 0))), (q_33, .inl (G.2.2.1 9, 8, .inl (upd (upd (upd (upd (upd (upd (upd (upd (fun _ => 0) 0 (-1000000)) 1 (-1000000)) 2 (-1000000)) 3 (-1000000)) 4 (-1000000)) 5 (-1000000)) 6 (-1000000)) 7 (-1000000))))] rfl ?_
  refine uo_putF 7 F hnam inX8 tyX8_ok nmX8 rfl (by decide) rfl rfl (vm_mem 696 (by decide +kernel) (by decide +kernel)) rfl rfl rfl (by simp) dX8_init_77 ?_
  refine un_aload F 0 dX8_init_80 rfl ?_
  refine un_bipush F (nI 8) dX8_init_81 (by decide) ?_
  refine uo_newa (ty := .int) 0 9 8 F (vm_mem 170 (by decide +kernel) (by decide +kernel)) rfl rfl na_9 (nI_pos (by omega)) (nI_clamp (by omega)) (Nat.le_of_ble_eq_true rfl) (Nat.le_of_ble_eq_true rfl) (Nat.le_of_ble_eq_true rfl) dX8_init_83 (fun q_83 => ?_)
  refine uo_putF 8 F hnam inX8 tyX8_ok nmX8 rfl (by decide) rfl rfl (vm_mem 697 (by decide +kernel) (by decide +kernel)) rfl rfl rfl (by simp) dX8_init_85 ?_
  refine un_aload F 0 dX8_init_88 rfl ?_
  refine un_sipush F (nI 320) dX8_init_89 (by decide) ?_
  refine uo_newa (ty := .int) 0 9 320 F (vm_mem 170 (by decide +kernel) (by decide +kernel)) rfl rfl na_9 (nI_pos (by omega)) (nI_clamp (by omega)) (Nat.le_of_ble_eq_true rfl) (Nat.le_of_ble_eq_true rfl) (Nat.le_of_ble_eq_true rfl) dX8_init_92 (fun q_92 => ?_)
  refine uo_putF 9 F hnam inX8 tyX8_ok nmX8 rfl (by decide) rfl rfl (vm_mem 698 (by decide +kernel) (by decide +kernel)) rfl rfl rfl (by simp) dX8_init_94 ?_
  refine un_aload F 0 dX8_init_97 rfl ?_
  refine un_bipush F (nI 16) dX8_init_98 (by decide) ?_
  refine uo_newa (ty := .int) 0 9 16 F (vm_mem 170 (by decide +kernel) (by decide +kernel)) rfl rfl na_9 (nI_pos (by omega)) (nI_clamp (by omega)) (Nat.le_of_ble_eq_true rfl) (Nat.le_of_ble_eq_true rfl) (Nat.le_of_ble_eq_true rfl) dX8_init_100 (fun q_100 => ?_)
  refine uo_putF 10 F hnam inX8 tyX8_ok nmX8 rfl (by decide) rfl rfl (vm_mem 699 (by decide +kernel) (by decide +kernel)) rfl rfl rfl (by simp) dX8_init_102 ?_
  refine un_aload F 0 dX8_init_105 rfl ?_
  refine un_bipush F (nI 24) dX8_init_106 (by decide) ?_
  refine uo_newa (ty := .int) 0 9 24 F (vm_mem 170 (by decide +kernel) (by decide +kernel)) rfl rfl na_9 (nI_pos (by omega)) (nI_clamp (by omega)) (Nat.le_of_ble_eq_true rfl) (Nat.le_of_ble_eq_true rfl) (Nat.le_of_ble_eq_true rfl) dX8_init_108 (fun q_108 => ?_)
  refine uo_putF 17 F hnam inX8 tyX8_ok nmX8 rfl (by decide) rfl rfl (vm_mem 706 (by decide +kernel) (by decide +kernel)) rfl rfl rfl (by simp) dX8_init_110 ?_
  exact K _ _ _ ⟨un_ad [q_7, q_16, q_25, q_33, q_83, q_92, q_100, q_108], rfl⟩ dX8_init_113
