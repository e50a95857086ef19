/-! THE PLAIN MACHINE: values are whole numbers (Int), longs (Int) and places of cells (Nat); the cells and where they refer to are fixed; a state of the heap is a table of numbers. -/
abbrev sw_Vl : Type := Int ⊕ Int ⊕ Nat
abbrev sw_L : Type := List (Nat × sw_Vl)
abbrev sw_S : Type := Nat → Nat → Int
abbrev sw_Rf : Type := Nat → Nat → Option Nat
abbrev sw_I : Type := Instr × Nat × Nat × Int
abbrev sw_M : Type := MethodName × ByteArray × Nat × Option FieldType × Nat × Nat
abbrev sw_C3 : Type := ClassId × ClassId × ClassId
abbrev sw_Ly : Type := List (Nat × Nat)
abbrev sw_cl : List vw_C := [(RX0, TX0, 1), (RX1, TX1, 5), (RX2, TX2, 5), (RX3, TX3, 5), (RX4, TX4, 4), (RX5, TX5, 2), (RX6, TX6, 15), (RX7, TX7, 11), (RX8, TX8, 40)]
/-- the words of the tables that stay as they are -/
def sw_tb : List Cond := lw_tbl.filter goodWord
def sw_tv (ad : Nat → Nat) : sw_Vl → Value
  | .inl x => .int (Int32.ofInt x)
  | .inr (.inl x) => .long (Int64.ofInt x)
  | .inr (.inr a) => .ref (ad a)
def sw_cat : sw_Vl → Nat
  | .inl _ => 1
  | .inr (.inl _) => 2
  | .inr (.inr _) => 1
theorem sw_tv_cat (ad : Nat → Nat) (v : sw_Vl) : (sw_tv ad v).category = sw_cat v := by rcases v with x | x | a <;> rfl
def sw_tl (ad : Nat → Nat) (L : sw_L) : List (Nat × Value) := L.map fun q => (q.1, sw_tv ad q.2)
def sw_N (a : Nat) : Nat := match sw_cl[a]? with
  | some r => r.2.2
  | none => 0
def sw_fv (ad : Nat → Nat) (r : Option Nat) (x : Int) : Value := match r with
  | some a => .ref (ad a)
  | none => .int (Int32.ofInt x)
def sw_ce (c3 : sw_C3) (ad : Nat → Nat) (ρ : sw_Rf) (σ : sw_S) (i : Nat) (k : Nat × Nat) : va_E :=
  if k.1 = 100 then .inl (c3.1, k.2, .inl fun j => Int32.ofInt (σ i j))
  else if k.1 = 101 then .inl (c3.2.1, k.2, .inl fun j => Int32.ofInt (σ i j))
  else if k.1 = 102 then .inl (c3.2.2, k.2, .inr (.inr (.inr (.inr fun j => (ρ i j).map ad))))
  else .inr (k.1, (List.range (sw_N k.1)).map fun j => sw_fv ad (ρ i j) (σ i j))
def sw_wl (c3 : sw_C3) (ad : Nat → Nat) (ly : sw_Ly) (ρ : sw_Rf) (σ : sw_S) : va_W := ly.mapIdx fun i k => (ad i, sw_ce c3 ad ρ σ i k)
theorem sw_wl_at {c3 : sw_C3} {ad : Nat → Nat} {ly : sw_Ly} {ρ : sw_Rf} {σ : sw_S} {i : Nat} {k : Nat × Nat} (h : ly[i]? = some k) : (sw_wl c3 ad ly ρ σ)[i]? = some (ad i, sw_ce c3 ad ρ σ i k) := by
  simp [sw_wl, h]
theorem sw_ce_cong {c3 : sw_C3} {ad : Nat → Nat} {ρ : sw_Rf} {σ σ' : sw_S} {i : Nat} {k : Nat × Nat} (h : ∀ j, σ' i j = σ i j) : sw_ce c3 ad ρ σ' i k = sw_ce c3 ad ρ σ i k := by
  unfold sw_ce
  simp only [h]
def sw_u (σ : sw_S) (i j : Nat) (v : Int) : sw_S := fun a b => if a = i ∧ b = j then v else σ a b
theorem sw_u_same (σ : sw_S) (i j : Nat) (v : Int) : sw_u σ i j v i j = v := by simp [sw_u]
theorem sw_u_ne (σ : sw_S) {i j a b : Nat} (v : Int) (h : ¬ (a = i ∧ b = j)) : sw_u σ i j v a b = σ a b := by simp [sw_u, h]
theorem sw_u_row (σ : sw_S) {i j a b : Nat} (v : Int) (h : a ≠ i) : sw_u σ i j v a b = σ a b := sw_u_ne σ v (fun q => h q.1)
theorem sw_wl_set {c3 : sw_C3} {ad : Nat → Nat} {ly : sw_Ly} {ρ : sw_Rf} {σ σ' : sw_S} {i : Nat} {k : Nat × Nat} (h : ly[i]? = some k) (ho : ∀ a b, a ≠ i → σ' a b = σ a b) : (sw_wl c3 ad ly ρ σ).set i (ad i, sw_ce c3 ad ρ σ' i k) = sw_wl c3 ad ly ρ σ' := by
  apply List.ext_getElem?
  intro n
  have hi : i < ly.length := (List.getElem?_eq_some_iff.mp h).1
  by_cases hn : n = i
  · subst hn
    rw [List.getElem?_set_self (by simpa [sw_wl] using hi), sw_wl_at h]
  · rw [List.getElem?_set_ne (Ne.symm hn)]
    cases hk : ly[n]? with
    | none => simp [sw_wl, hk]
    | some k' => rw [sw_wl_at hk, sw_wl_at hk, sw_ce_cong (fun j => ho n j hn)]
def sw_A (ad : Nat → Nat) (n sz : Nat) : Nat → Prop := fun q => (∃ i, i < n ∧ q = ad i) ∨ sz ≤ q
def sw_inj (ad : Nat → Nat) (n : Nat) : Prop := ∀ i j, i < n → j < n → ad i = ad j → i = j
theorem sw_D {c3 : sw_C3} {ad : Nat → Nat} {ly : sw_Ly} {ρ : sw_Rf} {σ : sw_S} {sz : Nat} (hj : sw_inj ad ly.length) : va_D (sw_A ad ly.length sz) (sw_wl c3 ad ly ρ σ) := by
  have key : ∀ (k : Nat) (q : Nat × va_E), (sw_wl c3 ad ly ρ σ)[k]? = some q → k < ly.length ∧ q.1 = ad k := by
    intro k q hk
    cases h : ly[k]? with
    | none => simp [sw_wl, h] at hk
    | some kd =>
      rw [sw_wl_at h] at hk
      cases hk
      exact ⟨(List.getElem?_eq_some_iff.mp h).1, rfl⟩
  refine ⟨fun i j x y hx hy hxy => ?_, fun k q hk => ?_⟩
  · obtain ⟨h1, e1⟩ := key i x hx
    obtain ⟨h2, e2⟩ := key j y hy
    exact hj i j h1 h2 (by rw [← e1, ← e2, hxy])
  · obtain ⟨h1, e1⟩ := key k q hk
    exact Or.inl ⟨k, h1, e1⟩
abbrev sw_tys (c3 : sw_C3) : List (ClassId × FieldType) := [(c3.1, .int), (c3.2.1, .boolean), (c3.2.2, .object "ShaftWinder$Sheet")]
def sw_ws (M : sw_M) : List Cond := Cond.code M.1 M.2.1 M.2.2.1 M.2.2.2.1 :: sw_tb
def sw_rm (M : sw_M) : Room := { frames := M.2.2.2.2.1, cells := 0, slots := 0, locals := M.2.2.2.2.2 }
def sw_Qc (D : va_G) (c3 : sw_C3) (ad : Nat → Nat) (ly : sw_Ly) (ρ : sw_Rf) (Q : Option sw_Vl → sw_S → Prop) (A : Nat → Prop) : Array Value → State → Outcome → State → Prop := fun _ st oc t =>
  (∃ (r : Option sw_Vl) (σ' : sw_S), oc = .returned (r.map (sw_tv ad)) ∧ Q r σ' ∧ va_P D sw_cl (sw_wl c3 ad ly ρ σ') t.heap ∧ va_K D sw_cl (sw_tys c3) t) ∧ va_F A st t
def sw_Pc (D : va_G) (c3 : sw_C3) (ad : Nat → Nat) (ly : sw_Ly) (ρ : sw_Rf) (σ : sw_S) (args : List sw_Vl) (sz : Nat) : Array Value → State → Prop := va_Pc (args.map (sw_tv ad)) (fun U => U.heap.size = sz ∧ va_P D sw_cl (sw_wl c3 ad ly ρ σ) U.heap ∧ va_K D sw_cl (sw_tys c3) U)
/-- THE CONTRACT of a method over the plain machine: from these numbers it returns, and Q holds of its answer and the numbers behind it -/
def sw_Con (ly : sw_Ly) (ρ : sw_Rf) (M : sw_M) (args : List sw_Vl) (σ : sw_S) (Q : Option sw_Vl → sw_S → Prop) : Prop :=
  ∀ (l : Launch) (D : va_G) (c3 : sw_C3) (ad : Nat → Nat) (sz : Nat), sw_inj ad ly.length → Met l M.1 (sw_ws M) (sw_rm M) (sw_Pc D c3 ad ly ρ σ args sz) (sw_Qc D c3 ad ly ρ Q (sw_A ad ly.length sz)) 0 0 (sw_A ad ly.length sz)
def sw_CX (M : sw_M) (D : va_G) (c3 : sw_C3) (ad : Nat → Nat) (n : Nat) (p : Program) (s : State) (m : MethodId) (args : Array Value) (meth : Method) (c : Code) : Prop :=
  p.tables.exec = Jvm.exec ∧ c.code = M.2.1 ∧ meth.sig.returnType = M.2.2.2.1 ∧ c.maxLocals = M.2.2.1 ∧ s.vm.findClass M.1.cls = some m.cls ∧ (∀ w ∈ sw_tb, w.before args s = true) ∧ meth.locks = false ∧ va_K D sw_cl (sw_tys c3) s ∧ sw_inj ad n
/-- within a method: from this place, with these locals, this stack and these numbers, it comes to its end with Q -/
def sw_E (ly : sw_Ly) (ρ : sw_Rf) (M : sw_M) (pc : Nat) (L : sw_L) (st : List sw_Vl) (σ : sw_S) (Q : Option sw_Vl → sw_S → Prop) : Prop :=
  ∀ (l : Launch) (D : va_G) (c3 : sw_C3) (ad : Nat → Nat) (p : Program) (e : Env) (s : State) (m : MethodId) (args : Array Value) (below : List Frame) (meth : Method) (c : Code) (H : Heap) (locs : List Loc) (ls : Array Slot),
    sw_CX M D c3 ad ly.length p s m args meth c → va_P D sw_cl (sw_wl c3 ad ly ρ σ) H → va_S (sw_A ad ly.length s.heap.size) s.heap H locs → lv_has ls M.2.2.1 (sw_tl ad L) →
    W p l e (sw_rm M) s m args below meth c H locs 0 0 (MQ below (sw_Qc D c3 ad ly ρ Q (sw_A ad ly.length s.heap.size)) args s 0 0 (sw_A ad ly.length s.heap.size)) (F0 m pc ls (st.map (sw_tv ad)))
def sw_L0 : Nat → List sw_Vl → sw_L
  | _, [] => []
  | i, v :: vs => (i, v) :: sw_L0 (if sw_cat v = 2 then i + 2 else i + 1) vs
theorem sw_L0_tl (ad : Nat → Nat) : ∀ (vs : List sw_Vl) (i : Nat), lv_args i (vs.map (sw_tv ad)) = sw_tl ad (sw_L0 i vs)
  | [], _ => rfl
  | v :: vs, i => by
    have h := sw_L0_tl ad vs (if sw_cat v = 2 then i + 2 else i + 1)
    simp only [List.map_cons, lv_args, sw_L0, sw_tl, sw_tv_cat] at h ⊢
    rw [h]
def sw_wd : List sw_Vl → Nat
  | [] => 0
  | v :: vs => sw_cat v + sw_wd vs
theorem sw_wd_sl (ad : Nat → Nat) : ∀ (vs : List sw_Vl), (lg_sl (vs.map (sw_tv ad))).length = sw_wd vs
  | [] => rfl
  | v :: vs => by
    have h := sw_wd_sl ad vs
    have hc := sw_tv_cat ad v
    simp only [lg_sl, List.map_cons, List.flatMap_cons, List.length_append, sw_wd] at h ⊢
    rw [h]
    rcases v with x | x | a <;> simp [sw_tv, sw_cat, Value.category]
theorem sw_con {ly : sw_Ly} {ρ : sw_Rf} {M : sw_M} {args : List sw_Vl} {σ : sw_S} {Q : Option sw_Vl → sw_S → Prop} (hy : plainName M.1.cls = true) (hw : sw_wd args ≤ M.2.2.1) (hE : sw_E ly ρ M 0 (sw_L0 0 args) [] σ Q) : sw_Con ly ρ M args σ Q := by
  intro l D c3 ad sz hj
  refine Met.ofW (cc := M.2.1) (maxL := M.2.2.1) (ret := M.2.2.2.1) hy rfl ?_
  intro p e s m args' below meth c s₁ B hml hv
  obtain ⟨rfl, hsz, hP, hK⟩ := hv
  subst hsz
  have hts := atoms_spec (ws := sw_ws M) B.pre
  rw [lg_entry_eq]
  have hl := lv_entry (args.map (sw_tv ad)) (n := M.2.2.1) (by rw [sw_wd_sl]; exact hw)
  rw [sw_L0_tl] at hl
  exact hE l D c3 ad p e s m _ below meth c s.heap [] _ ⟨B.exec, B.bytes, B.returns, hml, findClass_of_methodNamed B.named, fun w hw => hts w (List.mem_cons_of_mem _ hw), B.notSynchronized, hK, hj⟩ hP va_S.rf hl
/-- numbers within the ints -/
abbrev sw_g (x : Int) : Prop := -2147483648 ≤ x ∧ x < 2147483648
theorem sw_ti {x : Int} (h : sw_g x) : (Int32.ofInt x).toInt = x := Int32.toInt_ofInt_of_le (by have := h.1; omega) (by have := h.2; omega)
theorem sw_lt {x y : Int} (hx : sw_g x) (hy : sw_g y) : Int32.ofInt x < Int32.ofInt y ↔ x < y := by rw [Int32.lt_iff_toInt_lt, sw_ti hx, sw_ti hy]
theorem sw_le {x y : Int} (hx : sw_g x) (hy : sw_g y) : Int32.ofInt x ≤ Int32.ofInt y ↔ x ≤ y := by rw [Int32.le_iff_toInt_le, sw_ti hx, sw_ti hy]
theorem sw_eq {x y : Int} (hx : sw_g x) (hy : sw_g y) : Int32.ofInt x = Int32.ofInt y ↔ x = y := by rw [← Int32.toInt_inj, sw_ti hx, sw_ti hy]
theorem sw_g0 : sw_g 0 := ⟨by decide, by decide⟩
theorem sw_of0 : Int32.ofInt 0 = 0 := rfl
theorem sw_ix {x : Int} {n : Nat} (h0 : 0 ≤ x) (hn : x < n) (hg : (n : Int) ≤ 2147483648) : vp_in (Int32.ofInt x) n ∧ (Int32.ofInt x).toNatClampNeg = x.toNat := by
  have hx : sw_g x := ⟨by omega, by omega⟩
  have e : (Int32.ofInt x).toNatClampNeg = x.toNat := by
    show (Int32.ofInt x).toInt.toNat = _
    rw [sw_ti hx]
  refine ⟨?_, e⟩
  rw [vp_in_iff, sw_ti hx]
  exact ⟨h0, hn⟩
