def sw_len (x : sw_I) : Nat := match x.1 with
  | .bipush _ => 2
  | .iload _ => 2
  | .aload _ => 2
  | .lload _ => 2
  | .istore _ => 2
  | .astore _ => 2
  | .lstore _ => 2
  | .ldc _ => 2
  | .sipush _ => 3
  | .ldc2_w _ => 3
  | .iinc _ _ => 3
  | .goto _ => 3
  | .if_icmp _ _ => 3
  | .ifCond _ _ => 3
  | .getfield _ => 3
  | .putfield _ => 3
  | .invokestatic _ => 3
  | .invokevirtual _ => 3
  | .invokespecial _ => 3
  | .tableswitch _ _ _ _ => x.2.1
  | .lookupswitch _ _ => x.2.1
  | _ => 1
def sw_okf (own : String) (idx a b : Nat) : Bool := match sw_cl[a]? with
  | some r => decide (b < r.2.2) && decide (Cond.fieldLink own idx (r.2.1 b).1 (r.2.1 b).2.1 (r.2.1 b).2.2.1 ∈ sw_tb)
  | none => false
def sw_okp (a b : Nat) (z : Int) : Bool := match sw_cl[a]? with
  | some r => !(r.2.1 b).2.2.2 && (decide ((r.2.1 b).2.2.1 = "I") || (decide ((r.2.1 b).2.2.1 = "Z") && decide (z = 1)))
  | none => false
def sw_ok2 (own : String) (x : sw_I) : Bool := match x.1 with
  | .bipush n => decide ((Int8.ofInt n).toInt32 = Int32.ofInt x.2.2.2)
  | .sipush n => decide ((Int16.ofInt n).toInt32 = Int32.ofInt x.2.2.2)
  | .ldc idx => decide (Cond.constant own idx (Int32.ofInt x.2.2.2) ∈ sw_tb)
  | .ldc2_w idx => decide (Cond.constantLong own idx (Int64.ofInt x.2.2.2) ∈ sw_tb)
  | .getfield idx => sw_okf own idx x.2.1 x.2.2.1
  | .putfield idx => sw_okf own idx x.2.1 x.2.2.1 && sw_okp x.2.1 x.2.2.1 x.2.2.2
  | _ => true
def sw_ok1 (own : String) (cc : ByteArray) (pc : Nat) (x : sw_I) : Bool := decide (decode cc pc = .ok (x.1, sw_len x)) && sw_ok2 own x
def sw_ok : String → ByteArray → Nat → List (Option sw_I) → Bool
  | _, _, _, [] => true
  | own, cc, pc, none :: r => sw_ok own cc (pc + 1) r
  | own, cc, pc, some x :: r => sw_ok1 own cc pc x && sw_ok own cc (pc + 1) r
theorem sw_ok_at {own : String} {cc : ByteArray} : ∀ {I : List (Option sw_I)} {p0 pc : Nat} {x : sw_I}, sw_ok own cc p0 I = true → I[pc]? = some (some x) → sw_ok1 own cc (p0 + pc) x = true
  | [], _, _, _, _, h => by simp at h
  | none :: r, p0, 0, x, _, h => by simp at h
  | none :: r, p0, pc + 1, x, hk, h => by
    have := sw_ok_at (I := r) (p0 := p0 + 1) (pc := pc) (x := x) (by simpa [sw_ok] using hk) (by simpa using h)
    rw [show p0 + (pc + 1) = p0 + 1 + pc by omega]; exact this
  | some y :: r, p0, 0, x, hk, h => by
    simp only [List.getElem?_cons_zero, Option.some.injEq] at h
    subst h
    simp only [sw_ok, Bool.and_eq_true] at hk
    exact hk.1
  | some y :: r, p0, pc + 1, x, hk, h => by
    simp only [sw_ok, Bool.and_eq_true] at hk
    have := sw_ok_at (I := r) (p0 := p0 + 1) (pc := pc) (x := x) hk.2 (by simpa using h)
    rw [show p0 + (pc + 1) = p0 + 1 + pc by omega]; exact this
def sw_Ok (M : sw_M) (I : List (Option sw_I)) : Prop := sw_ok M.1.cls M.2.1 0 I = true
theorem sw_dec {M : sw_M} {I : List (Option sw_I)} {pc : Nat} {x : sw_I} (hI : sw_Ok M I) (h : I[pc]? = some (some x)) : decode M.2.1 pc = .ok (x.1, sw_len x) ∧ sw_ok2 M.1.cls x = true := by
  have h1 := sw_ok_at hI h
  simp only [sw_ok1, Bool.and_eq_true, decide_eq_true_eq, Nat.zero_add] at h1
  exact h1
/-- each class's words -/
theorem sw_clf : ∀ (a : Nat) (r : vw_C), sw_cl[a]? = some r → (∀ w ∈ u_ws r.1 r.2.1 r.2.2, w ∈ sw_tb) ∧ (∃ ty0 : Nat → FieldType, ∀ k, k < r.2.2 → parseFieldDescriptor (r.2.1 k).2.2.1 = some (ty0 k)) ∧ (∀ a, a < r.2.2 → ∀ b, b < r.2.2 → a ≠ b → (r.2.1 a).2.1 ≠ (r.2.1 b).2.1)
  | 0, r, h => by cases h; exact ⟨by decide +kernel, ⟨_, tyX0_ok⟩, nmX0⟩
  | 1, r, h => by cases h; exact ⟨by decide +kernel, ⟨_, tyX1_ok⟩, nmX1⟩
  | 2, r, h => by cases h; exact ⟨by decide +kernel, ⟨_, tyX2_ok⟩, nmX2⟩
  | 3, r, h => by cases h; exact ⟨by decide +kernel, ⟨_, tyX3_ok⟩, nmX3⟩
  | 4, r, h => by cases h; exact ⟨by decide +kernel, ⟨_, tyX4_ok⟩, nmX4⟩
  | 5, r, h => by cases h; exact ⟨by decide +kernel, ⟨_, tyX5_ok⟩, nmX5⟩
  | 6, r, h => by cases h; exact ⟨by decide +kernel, ⟨_, tyX6_ok⟩, nmX6⟩
  | 7, r, h => by cases h; exact ⟨by decide +kernel, ⟨_, tyX7_ok⟩, nmX7⟩
  | 8, r, h => by cases h; exact ⟨by decide +kernel, ⟨_, tyX8_ok⟩, nmX8⟩
  | n + 9, r, h => by simp at h
/-! locals -/
def sw_lk (L : sw_L) (k : Nat) : Option sw_Vl := match L with
  | [] => none
  | q :: r => if q.1 = k then some q.2 else sw_lk r k
theorem sw_lk_mem {k : Nat} {v : sw_Vl} : ∀ {L : sw_L}, sw_lk L k = some v → (k, v) ∈ L
  | [], h => by simp [sw_lk] at h
  | q :: r, h => by
    unfold sw_lk at h
    split at h
    · next e => cases h; subst e; exact List.mem_cons_self
    · exact List.mem_cons_of_mem _ (sw_lk_mem h)
theorem sw_lk_at {ad : Nat → Nat} {ls : Array Slot} {n : Nat} {L : sw_L} {k : Nat} {v : sw_Vl} (h : lv_has ls n (sw_tl ad L)) (hk : sw_lk L k = some v) : ls[k]? = some (.val (sw_tv ad v)) :=
  h.2.2 (k, sw_tv ad v) (List.mem_map.mpr ⟨(k, v), sw_lk_mem hk, rfl⟩)
def sw_p1 (L : sw_L) (k : Nat) (v : sw_Vl) : sw_L := (k, v) :: L.filter fun q => !(q.1 == k) && !(q.1 + 1 == k && sw_cat q.2 == 2)
def sw_p2 (L : sw_L) (k : Nat) (v : sw_Vl) : sw_L := (k, v) :: L.filter fun q => !(q.1 == k) && (!(q.1 == k + 1) && !(q.1 + 1 == k && sw_cat q.2 == 2))
theorem sw_p1_tl (ad : Nat → Nat) (L : sw_L) (k : Nat) (v : sw_Vl) : (k, sw_tv ad v) :: (sw_tl ad L).filter (fun q => !(q.1 == k) && !(q.1 + 1 == k && q.2.category == 2)) = sw_tl ad (sw_p1 L k v) := by
  simp only [sw_p1, sw_tl, List.map_cons, List.filter_map]
  congr 3
  funext q
  simp only [Function.comp, sw_tv_cat]
theorem sw_p2_tl (ad : Nat → Nat) (L : sw_L) (k : Nat) (v : sw_Vl) : (k, sw_tv ad v) :: (sw_tl ad L).filter (fun q => !(q.1 == k) && (!(q.1 == k + 1) && !(q.1 + 1 == k && q.2.category == 2))) = sw_tl ad (sw_p2 L k v) := by
  simp only [sw_p2, sw_tl, List.map_cons, List.filter_map]
  congr 3
  funext q
  simp only [Function.comp, sw_tv_cat]
def sw_b (x : Int) : Int := (Int32.ofInt x).toInt8.toInt32.toInt
def sw_h (x : Int) : Int := (Int32.ofInt x).toInt16.toInt32.toInt
def sw_fa (r : Option Nat) (x : Int) : sw_Vl := match r with
  | some a => .inr (.inr a)
  | none => .inl x
theorem sw_fa_tv (ad : Nat → Nat) (r : Option Nat) (x : Int) : sw_tv ad (sw_fa r x) = sw_fv ad r x := by cases r <;> rfl
def sw_pI : List sw_Vl → Option (Int × List sw_Vl)
  | .inl v :: r => some (v, r)
  | _ => none
def sw_pL : List sw_Vl → Option (Int × List sw_Vl)
  | .inr (.inl v) :: r => some (v, r)
  | _ => none
def sw_pR : List sw_Vl → Option (Nat × List sw_Vl)
  | .inr (.inr v) :: r => some (v, r)
  | _ => none
theorem sw_pI_eq {st : List sw_Vl} {q : Int × List sw_Vl} (h : sw_pI st = some q) : st = .inl q.1 :: q.2 := by
  rcases st with _ | ⟨v | v | v, r⟩ <;> simp [sw_pI] at h
  subst h; rfl
theorem sw_pL_eq {st : List sw_Vl} {q : Int × List sw_Vl} (h : sw_pL st = some q) : st = .inr (.inl q.1) :: q.2 := by
  rcases st with _ | ⟨v | v | v, r⟩ <;> simp [sw_pL] at h
  subst h; rfl
theorem sw_pR_eq {st : List sw_Vl} {q : Nat × List sw_Vl} (h : sw_pR st = some q) : st = .inr (.inr q.1) :: q.2 := by
  rcases st with _ | ⟨v | v | v, r⟩ <;> simp [sw_pR] at h
  subst h; rfl
def sw_lI (L : sw_L) (k : Nat) : Option Int := match sw_lk L k with
  | some (.inl v) => some v
  | _ => none
def sw_lL (L : sw_L) (k : Nat) : Option Int := match sw_lk L k with
  | some (.inr (.inl v)) => some v
  | _ => none
def sw_lR (L : sw_L) (k : Nat) : Option Nat := match sw_lk L k with
  | some (.inr (.inr v)) => some v
  | _ => none
theorem sw_lI_eq {L : sw_L} {k : Nat} {v : Int} (h : sw_lI L k = some v) : sw_lk L k = some (.inl v) := by
  unfold sw_lI at h
  split at h
  · next e => cases h; exact e
  · cases h
theorem sw_lL_eq {L : sw_L} {k : Nat} {v : Int} (h : sw_lL L k = some v) : sw_lk L k = some (.inr (.inl v)) := by
  unfold sw_lL at h
  split at h
  · next e => cases h; exact e
  · cases h
theorem sw_lR_eq {L : sw_L} {k : Nat} {v : Nat} (h : sw_lR L k = some v) : sw_lk L k = some (.inr (.inr v)) := by
  unfold sw_lR at h
  split at h
  · next e => cases h; exact e
  · cases h
/-- one instruction that asks for nothing -/
def sw_st (ly : sw_Ly) (ρ : sw_Rf) (nL : Nat) (x : sw_I) (pc : Nat) (L : sw_L) (st : List sw_Vl) (σ : sw_S) : Option (Nat × sw_L × List sw_Vl × sw_S) :=
  match x.1 with
  | .iconst n => some (pc + 1, L, .inl n :: st, σ)
  | .bipush _ => some (pc + 2, L, .inl x.2.2.2 :: st, σ)
  | .sipush _ => some (pc + 3, L, .inl x.2.2.2 :: st, σ)
  | .ldc _ => some (pc + 2, L, .inl x.2.2.2 :: st, σ)
  | .ldc2_w _ => some (pc + 3, L, .inr (.inl x.2.2.2) :: st, σ)
  | .iload_n k => (sw_lI L k).bind fun v => some (pc + 1, L, .inl v :: st, σ)
  | .iload k => (sw_lI L k).bind fun v => some (pc + 2, L, .inl v :: st, σ)
  | .aload_n k => (sw_lR L k).bind fun v => some (pc + 1, L, .inr (.inr v) :: st, σ)
  | .aload k => (sw_lR L k).bind fun v => some (pc + 2, L, .inr (.inr v) :: st, σ)
  | .lload_n k => (sw_lL L k).bind fun v => some (pc + 1, L, .inr (.inl v) :: st, σ)
  | .lload k => (sw_lL L k).bind fun v => some (pc + 2, L, .inr (.inl v) :: st, σ)
  | .istore_n k => (sw_pI st).bind fun q => if k.val < nL then some (pc + 1, sw_p1 L k.val (.inl q.1), q.2, σ) else none
  | .istore k => (sw_pI st).bind fun q => if k < nL then some (pc + 2, sw_p1 L k (.inl q.1), q.2, σ) else none
  | .astore_n k => (sw_pR st).bind fun q => if k.val < nL then some (pc + 1, sw_p1 L k.val (.inr (.inr q.1)), q.2, σ) else none
  | .astore k => (sw_pR st).bind fun q => if k < nL then some (pc + 2, sw_p1 L k (.inr (.inr q.1)), q.2, σ) else none
  | .lstore_n k => (sw_pL st).bind fun q => if k.val + 1 < nL then some (pc + 1, sw_p2 L k.val (.inr (.inl q.1)), q.2, σ) else none
  | .lstore k => (sw_pL st).bind fun q => if k + 1 < nL then some (pc + 2, sw_p2 L k (.inr (.inl q.1)), q.2, σ) else none
  | .iinc k n => (sw_lI L k).bind fun v => if k < nL then some (pc + 3, sw_p1 L k (.inl (v + n)), st, σ) else none
  | .iadd => (sw_pI st).bind fun q => (sw_pI q.2).bind fun q2 => some (pc + 1, L, .inl (q2.1 + q.1) :: q2.2, σ)
  | .isub => (sw_pI st).bind fun q => (sw_pI q.2).bind fun q2 => some (pc + 1, L, .inl (q2.1 - q.1) :: q2.2, σ)
  | .imul => (sw_pI st).bind fun q => (sw_pI q.2).bind fun q2 => some (pc + 1, L, .inl (q2.1 * q.1) :: q2.2, σ)
  | .ineg => (sw_pI st).bind fun q => some (pc + 1, L, .inl (-q.1) :: q.2, σ)
  | .ladd => (sw_pL st).bind fun q => (sw_pL q.2).bind fun q2 => some (pc + 1, L, .inr (.inl (q2.1 + q.1)) :: q2.2, σ)
  | .lmul => (sw_pL st).bind fun q => (sw_pL q.2).bind fun q2 => some (pc + 1, L, .inr (.inl (q2.1 * q.1)) :: q2.2, σ)
  | .i2b => (sw_pI st).bind fun q => some (pc + 1, L, .inl (sw_b q.1) :: q.2, σ)
  | .i2s => (sw_pI st).bind fun q => some (pc + 1, L, .inl (sw_h q.1) :: q.2, σ)
  | .dup => match st with
    | v :: r => if sw_cat v = 1 then some (pc + 1, L, v :: v :: r, σ) else none
    | [] => none
  | .goto off => if 0 ≤ (pc : Int) + off then some (((pc : Int) + off).toNat, L, st, σ) else none
  | .getfield _ => (sw_pR st).bind fun q => (ly[q.1]?).bind fun k => if k.1 = x.2.1 then some (pc + 3, L, sw_fa (ρ q.1 x.2.2.1) (σ q.1 x.2.2.1) :: q.2, σ) else none
  | .putfield _ => (sw_pI st).bind fun q => (sw_pR q.2).bind fun q2 => (ly[q2.1]?).bind fun k => if k.1 = x.2.1 ∧ (ρ q2.1 x.2.2.1).isNone = true ∧ (x.2.2.2 = 0 ∨ q.1 = 0 ∨ q.1 = 1) then some (pc + 3, L, q2.2, sw_u σ q2.1 x.2.2.1 q.1) else none
  | .arraylength => (sw_pR st).bind fun q => (ly[q.1]?).bind fun k => if 100 ≤ k.1 ∧ k.1 ≤ 102 then some (pc + 1, L, .inl (k.2 : Int) :: q.2, σ) else none
  | _ => none
section Step
variable {ly : sw_Ly} {ρ : sw_Rf} {M : sw_M} {I : List (Option sw_I)} {pc : Nat} {L : sw_L} {st : List sw_Vl} {σ : sw_S} {Q : Option sw_Vl → sw_S → Prop}
theorem sw_const {v : Value} {n : Nat} {w : sw_Vl} (h : ∀ (l : Launch) (p : Program) (e : Env) (s : State) (m : MethodId) (args : Array Value) (below : List Frame) (meth : Method) (c : Code) (H : Heap) (locs : List Loc) (ls : Array Slot) (rest : List Value) (Qw : State → Prop), p.tables.exec = Jvm.exec → c.code = M.2.1 → s.vm.findClass M.1.cls = some m.cls → (∀ w ∈ sw_tb, w.before args s = true) → W p l e (sw_rm M) s m args below meth c H locs 0 0 Qw (F0 m n ls (v :: rest)) → W p l e (sw_rm M) s m args below meth c H locs 0 0 Qw (F0 m pc ls rest)) (hv : ∀ ad, sw_tv ad w = v) (k : sw_E ly ρ M n L (w :: st) σ Q) : sw_E ly ρ M pc L st σ Q := by
  intro l D c3 ad p e s m args below meth c H locs ls C hP hS hl
  obtain ⟨hx, hb, hr, hml, hown, hts, hlk, hK, hj⟩ := C
  refine h l p e s m args below meth c H locs ls _ _ hx hb hown hts ?_
  rw [← hv ad]
  exact k l D c3 ad p e s m args below meth c H locs ls ⟨hx, hb, hr, hml, hown, hts, hlk, hK, hj⟩ hP hS hl
theorem sw_step {x : sw_I} {g : Nat × sw_L × List sw_Vl × sw_S} (hI : sw_Ok M I) (h : I[pc]? = some (some x)) (hs : sw_st ly ρ M.2.2.1 x pc L st σ = some g) (k : sw_E ly ρ M g.1 g.2.1 g.2.2.1 g.2.2.2 Q) : sw_E ly ρ M pc L st σ Q := by
  obtain ⟨hd, h2⟩ := sw_dec hI h
  obtain ⟨i, a, b, z⟩ := x
  unfold sw_st at hs
  split at hs
  all_goals first | (rename_i e; dsimp only at e; subst e; simp only [sw_len] at hd; done) | (rename_i e; dsimp only at e; subst e; simp only [sw_len] at hd) | contradiction
  · cases hs
    exact sw_const (fun l p e s m args below meth c H locs ls rest Qw hx hb ho ht kk => lv_iconst hx hb hd rfl kk) (fun _ => rfl) k
  · cases hs
    simp only [sw_ok2, decide_eq_true_eq] at h2
    exact sw_const (fun l p e s m args below meth c H locs ls rest Qw hx hb ho ht kk => lv_bipush hx hb hd h2 kk) (fun _ => rfl) k
  · cases hs
    simp only [sw_ok2, decide_eq_true_eq] at h2
    exact sw_const (fun l p e s m args below meth c H locs ls rest Qw hx hb ho ht kk => lv_sipush hx hb hd h2 kk) (fun _ => rfl) k
  · cases hs
    simp only [sw_ok2, decide_eq_true_eq] at h2
    exact sw_const (fun l p e s m args below meth c H locs ls rest Qw hx hb ho ht kk => lv_ldc hx hb ho (ht _ h2) hd kk) (fun _ => rfl) k
  · cases hs
    simp only [sw_ok2, decide_eq_true_eq] at h2
    exact sw_const (fun l p e s m args below meth c H locs ls rest Qw hx hb ho ht kk => lv_ldc2 hx hb ho (ht _ h2) hd kk) (fun _ => rfl) k
  · obtain ⟨v, hv, hg⟩ := Option.bind_eq_some_iff.mp hs
    cases hg
    intro l D c3 ad p e s m args below meth c H locs ls C hP hS hl
    exact lv_iload_n C.1 C.2.1 hd rfl (sw_lk_at hl (sw_lI_eq hv)) (k l D c3 ad p e s m args below meth c H locs ls C hP hS hl)
  · obtain ⟨v, hv, hg⟩ := Option.bind_eq_some_iff.mp hs
    cases hg
    intro l D c3 ad p e s m args below meth c H locs ls C hP hS hl
    exact lv_iload C.1 C.2.1 hd (sw_lk_at hl (sw_lI_eq hv)) (k l D c3 ad p e s m args below meth c H locs ls C hP hS hl)
  · obtain ⟨v, hv, hg⟩ := Option.bind_eq_some_iff.mp hs
    cases hg
    intro l D c3 ad p e s m args below meth c H locs ls C hP hS hl
    exact lv_aload_n C.1 C.2.1 hd rfl (sw_lk_at hl (sw_lR_eq hv)) (k l D c3 ad p e s m args below meth c H locs ls C hP hS hl)
  · obtain ⟨v, hv, hg⟩ := Option.bind_eq_some_iff.mp hs
    cases hg
    intro l D c3 ad p e s m args below meth c H locs ls C hP hS hl
    exact lv_aload C.1 C.2.1 hd (sw_lk_at hl (sw_lR_eq hv)) (k l D c3 ad p e s m args below meth c H locs ls C hP hS hl)
  · obtain ⟨v, hv, hg⟩ := Option.bind_eq_some_iff.mp hs
    cases hg
    intro l D c3 ad p e s m args below meth c H locs ls C hP hS hl
    exact lv_lload_n C.1 C.2.1 hd rfl (sw_lk_at hl (sw_lL_eq hv)) (k l D c3 ad p e s m args below meth c H locs ls C hP hS hl)
  · obtain ⟨v, hv, hg⟩ := Option.bind_eq_some_iff.mp hs
    cases hg
    intro l D c3 ad p e s m args below meth c H locs ls C hP hS hl
    exact lv_lload C.1 C.2.1 hd (sw_lk_at hl (sw_lL_eq hv)) (k l D c3 ad p e s m args below meth c H locs ls C hP hS hl)
  · obtain ⟨q, hq, hg⟩ := Option.bind_eq_some_iff.mp hs
    split at hg
    · next hn =>
      cases hg
      rw [sw_pI_eq hq]
      intro l D c3 ad p e s m args below meth c H locs ls C hP hS hl
      exact lv_istore_n C.1 C.2.1 hd rfl hl hn (sw_p1_tl ad L _ (.inl q.1)) (fun ls' hl' => k l D c3 ad p e s m args below meth c H locs ls' C hP hS hl')
    · cases hg
  · obtain ⟨q, hq, hg⟩ := Option.bind_eq_some_iff.mp hs
    split at hg
    · next hn =>
      cases hg
      rw [sw_pI_eq hq]
      intro l D c3 ad p e s m args below meth c H locs ls C hP hS hl
      exact lv_istore C.1 C.2.1 hd hl hn (sw_p1_tl ad L _ (.inl q.1)) (fun ls' hl' => k l D c3 ad p e s m args below meth c H locs ls' C hP hS hl')
    · cases hg
  · obtain ⟨q, hq, hg⟩ := Option.bind_eq_some_iff.mp hs
    split at hg
    · next hn =>
      cases hg
      rw [sw_pR_eq hq]
      intro l D c3 ad p e s m args below meth c H locs ls C hP hS hl
      exact lv_astore_n C.1 C.2.1 hd rfl hl hn (sw_p1_tl ad L _ (.inr (.inr q.1))) (fun ls' hl' => k l D c3 ad p e s m args below meth c H locs ls' C hP hS hl')
    · cases hg
  · obtain ⟨q, hq, hg⟩ := Option.bind_eq_some_iff.mp hs
    split at hg
    · next hn =>
      cases hg
      rw [sw_pR_eq hq]
      intro l D c3 ad p e s m args below meth c H locs ls C hP hS hl
      exact lv_astore C.1 C.2.1 hd hl hn (sw_p1_tl ad L _ (.inr (.inr q.1))) (fun ls' hl' => k l D c3 ad p e s m args below meth c H locs ls' C hP hS hl')
    · cases hg
  · obtain ⟨q, hq, hg⟩ := Option.bind_eq_some_iff.mp hs
    split at hg
    · next hn =>
      cases hg
      rw [sw_pL_eq hq]
      intro l D c3 ad p e s m args below meth c H locs ls C hP hS hl
      exact lv_lstore_n C.1 C.2.1 hd rfl hl hn (sw_p2_tl ad L _ (.inr (.inl q.1))) (fun ls' hl' => k l D c3 ad p e s m args below meth c H locs ls' C hP hS hl')
    · cases hg
  · obtain ⟨q, hq, hg⟩ := Option.bind_eq_some_iff.mp hs
    split at hg
    · next hn =>
      cases hg
      rw [sw_pL_eq hq]
      intro l D c3 ad p e s m args below meth c H locs ls C hP hS hl
      exact lv_lstore C.1 C.2.1 hd hl hn (sw_p2_tl ad L _ (.inr (.inl q.1))) (fun ls' hl' => k l D c3 ad p e s m args below meth c H locs ls' C hP hS hl')
    · cases hg
  · obtain ⟨v, hv, hg⟩ := Option.bind_eq_some_iff.mp hs
    split at hg
    · next hn =>
      cases hg
      intro l D c3 ad p e s m args below meth c H locs ls C hP hS hl
      obtain ⟨j, hj⟩ := List.getElem?_of_mem (List.mem_map.mpr ⟨_, sw_lk_mem (sw_lI_eq hv), rfl⟩ : _ ∈ sw_tl ad L)
      exact lv_iinc (k := j) C.1 C.2.1 hd hl hj (Int32.ofInt_add _ _).symm hn (sw_p1_tl ad L _ (.inl _)) (fun ls' hl' => k l D c3 ad p e s m args below meth c H locs ls' C hP hS hl')
    · cases hg
  · obtain ⟨q, hq, hg⟩ := Option.bind_eq_some_iff.mp hs
    obtain ⟨q2, hq2, hg⟩ := Option.bind_eq_some_iff.mp hg
    cases hg
    rw [sw_pI_eq hq, sw_pI_eq hq2]
    intro l D c3 ad p e s m args below meth c H locs ls C hP hS hl
    refine lv_iadd C.1 C.2.1 hd ?_
    rw [← Int32.ofInt_add]
    exact k l D c3 ad p e s m args below meth c H locs ls C hP hS hl
  · obtain ⟨q, hq, hg⟩ := Option.bind_eq_some_iff.mp hs
    obtain ⟨q2, hq2, hg⟩ := Option.bind_eq_some_iff.mp hg
    cases hg
    rw [sw_pI_eq hq, sw_pI_eq hq2]
    intro l D c3 ad p e s m args below meth c H locs ls C hP hS hl
    refine lv_isub C.1 C.2.1 hd ?_
    rw [← Int32.ofInt_sub]
    exact k l D c3 ad p e s m args below meth c H locs ls C hP hS hl
  · obtain ⟨q, hq, hg⟩ := Option.bind_eq_some_iff.mp hs
    obtain ⟨q2, hq2, hg⟩ := Option.bind_eq_some_iff.mp hg
    cases hg
    rw [sw_pI_eq hq, sw_pI_eq hq2]
    intro l D c3 ad p e s m args below meth c H locs ls C hP hS hl
    refine lv_imul C.1 C.2.1 hd ?_
    rw [← Int32.ofInt_mul]
    exact k l D c3 ad p e s m args below meth c H locs ls C hP hS hl
  · obtain ⟨q, hq, hg⟩ := Option.bind_eq_some_iff.mp hs
    cases hg
    rw [sw_pI_eq hq]
    intro l D c3 ad p e s m args below meth c H locs ls C hP hS hl
    refine lv_ineg C.1 C.2.1 hd ?_
    rw [← Int32.ofInt_neg]
    exact k l D c3 ad p e s m args below meth c H locs ls C hP hS hl
  · obtain ⟨q, hq, hg⟩ := Option.bind_eq_some_iff.mp hs
    obtain ⟨q2, hq2, hg⟩ := Option.bind_eq_some_iff.mp hg
    cases hg
    rw [sw_pL_eq hq, sw_pL_eq hq2]
    intro l D c3 ad p e s m args below meth c H locs ls C hP hS hl
    refine lv_ladd C.1 C.2.1 hd ?_
    rw [← Int64.ofInt_add]
    exact k l D c3 ad p e s m args below meth c H locs ls C hP hS hl
  · obtain ⟨q, hq, hg⟩ := Option.bind_eq_some_iff.mp hs
    obtain ⟨q2, hq2, hg⟩ := Option.bind_eq_some_iff.mp hg
    cases hg
    rw [sw_pL_eq hq, sw_pL_eq hq2]
    intro l D c3 ad p e s m args below meth c H locs ls C hP hS hl
    refine lv_lmul C.1 C.2.1 hd ?_
    rw [← Int64.ofInt_mul]
    exact k l D c3 ad p e s m args below meth c H locs ls C hP hS hl
  · obtain ⟨q, hq, hg⟩ := Option.bind_eq_some_iff.mp hs
    cases hg
    rw [sw_pI_eq hq]
    intro l D c3 ad p e s m args below meth c H locs ls C hP hS hl
    exact lv_i2b C.1 C.2.1 hd (Int32.ofInt_toInt _).symm (k l D c3 ad p e s m args below meth c H locs ls C hP hS hl)
  · obtain ⟨q, hq, hg⟩ := Option.bind_eq_some_iff.mp hs
    cases hg
    rw [sw_pI_eq hq]
    intro l D c3 ad p e s m args below meth c H locs ls C hP hS hl
    exact lv_i2s C.1 C.2.1 hd (Int32.ofInt_toInt _).symm (k l D c3 ad p e s m args below meth c H locs ls C hP hS hl)
  · split at hs
    · next v r =>
      split at hs
      · next hc =>
        cases hs
        intro l D c3 ad p e s m args below meth c H locs ls C hP hS hl
        exact lv_dup C.1 C.2.1 hd (by rw [sw_tv_cat]; exact hc) (k l D c3 ad p e s m args below meth c H locs ls C hP hS hl)
      · cases hs
    · cases hs
  · split at hs
    · next ho =>
      cases hs
      intro l D c3 ad p e s m args below meth c H locs ls C hP hS hl
      exact lv_goto C.1 C.2.1 hd (Int.toNat_of_nonneg ho).symm (k l D c3 ad p e s m args below meth c H locs ls C hP hS hl)
    · cases hs
  · obtain ⟨q, hq, hg⟩ := Option.bind_eq_some_iff.mp hs
    obtain ⟨kd, hkd, hg⟩ := Option.bind_eq_some_iff.mp hg
    split at hg
    · next ha =>
      cases hg
      rw [sw_pR_eq hq]
      intro l D c3 ad p e s m args below meth c H locs ls C hP hS hl
      have C0 := C
      obtain ⟨hx, hb, hr, hml, hown, hts, hlk, hK, hj⟩ := C
      simp only [sw_ok2, sw_okf] at h2
      split at h2
      · next r hcl =>
        simp only [Bool.and_eq_true, decide_eq_true_eq] at h2
        obtain ⟨hin, ⟨ty0, hty⟩, hnm⟩ := sw_clf _ _ hcl
        have he := sw_wl_at (c3 := c3) (ad := ad) (ρ := ρ) (σ := σ) hkd
        have ha9 : a < 9 := by
          rcases Nat.lt_or_ge a 9 with q | q
          · exact q
          · exact absurd hcl (by rw [List.getElem?_eq_none (by exact q)]; simp)
        have hce : sw_ce c3 ad ρ σ q.1 kd = .inr (a, (List.range (sw_N a)).map fun j => sw_fv ad (ρ q.1 j) (σ q.1 j)) := by
          unfold sw_ce
          rw [ha, if_neg (by show ¬ a = 100; omega), if_neg (by show ¬ a = 101; omega), if_neg (by show ¬ a = 102; omega)]
        rw [hce] at he
        have hN : sw_N a = r.2.2 := by simp only [sw_N, hcl]
        refine va_get (v := sw_fv ad (ρ q.1 b) (σ q.1 b)) hx hb hts hin hown hK hP q.1 he (by rw [hcl]) b h2.1 (hts _ h2.2) (fun _ h9 => h9) ?_ hd ?_
        · rw [List.getElem?_map, List.getElem?_range (by rw [hN]; exact h2.1)]; rfl
        · have kk := k l D c3 ad p e s m args below meth c H locs ls C0 hP hS hl
          simp only [List.map_cons, sw_fa_tv] at kk
          exact kk
      · cases h2
    · cases hg
  · obtain ⟨q, hq, hg⟩ := Option.bind_eq_some_iff.mp hs
    obtain ⟨q2, hq2, hg⟩ := Option.bind_eq_some_iff.mp hg
    obtain ⟨kd, hkd, hg⟩ := Option.bind_eq_some_iff.mp hg
    split at hg
    · next ha =>
      cases hg
      obtain ⟨ha, hrn, hz⟩ := ha
      rw [sw_pI_eq hq, sw_pR_eq hq2]
      intro l D c3 ad p e s m args below meth c H locs ls C hP hS hl
      have C0 := C
      obtain ⟨hx, hb, hr, hml, hown, hts, hlk, hK, hj⟩ := C
      simp only [sw_ok2, sw_okf, sw_okp] at h2
      split at h2
      · next r hcl =>
        simp only [hcl, Bool.and_eq_true, Bool.or_eq_true, decide_eq_true_eq, Bool.not_eq_true'] at h2
        obtain ⟨⟨hbN, hlink⟩, hfin, hdsc⟩ := h2
        obtain ⟨hin, ⟨ty0, hty⟩, hnm⟩ := sw_clf _ _ hcl
        have he := sw_wl_at (c3 := c3) (ad := ad) (ρ := ρ) (σ := σ) hkd
        have ha9 : a < 9 := by
          rcases Nat.lt_or_ge a 9 with q | q
          · exact q
          · exact absurd hcl (by rw [List.getElem?_eq_none (by exact q)]; simp)
        have hce : ∀ σ : sw_S, sw_ce c3 ad ρ σ q2.1 kd = .inr (a, (List.range (sw_N a)).map fun j => sw_fv ad (ρ q2.1 j) (σ q2.1 j)) := by
          intro σ
          unfold sw_ce
          rw [ha, if_neg (by show ¬ a = 100; omega), if_neg (by show ¬ a = 101; omega), if_neg (by show ¬ a = 102; omega)]
        rw [hce] at he
        have hN : sw_N a = r.2.2 := by simp only [sw_N, hcl]
        have hrn2 : ρ q2.1 b = none := by simpa using hrn
        have hset : ((List.range (sw_N a)).map fun j => sw_fv ad (ρ q2.1 j) (σ q2.1 j)).set b (.int (Int32.ofInt q.1)) = (List.range (sw_N a)).map fun j => sw_fv ad (ρ q2.1 j) (sw_u σ q2.1 b q.1 q2.1 j) := by
          apply List.ext_getElem?
          intro n
          by_cases hnb : n = b
          · subst hnb
            rw [List.getElem?_set_self (by simpa [hN] using hbN), List.getElem?_map, List.getElem?_range (by rw [hN]; exact hbN)]
            simp [sw_u, hrn2, sw_fv]
          · rw [List.getElem?_set_ne (Ne.symm hnb), List.getElem?_map, List.getElem?_map]
            by_cases hn : n < sw_N a
            · rw [List.getElem?_range hn]
              simp [sw_u, hnb]
            · rw [List.getElem?_eq_none (by simpa using hn)]
              rfl
        have go : ∀ (ty : FieldType), parseFieldDescriptor (r.2.1 b).2.2.1 = some ty → narrow ty (.int (Int32.ofInt q.1)) = .int (Int32.ofInt q.1) → fits ty (.int (Int32.ofInt q.1)) = true → W p l e (sw_rm M) s m args below meth c H locs 0 0 (MQ below (sw_Qc D c3 ad ly ρ Q (sw_A ad ly.length s.heap.size)) args s 0 0 (sw_A ad ly.length s.heap.size)) (F0 m pc ls (.int (Int32.ofInt q.1) :: .ref (ad q2.1) :: q2.2.map (sw_tv ad))) := by
          intro ty h3 h4 h5
          refine va_put hx hb hts hin ty0 hty hnm hown hK hP (sw_D hj) hS q2.1 he (by rw [hcl]) b hbN (hts _ hlink) (fun _ h9 => h9) hfin h3 h4 h5 (by simpa [hN] using hbN) hd (fun H1 locs1 hP1 hD1 hS1 => ?_)
          rw [hset] at hP1
          rw [← hce (sw_u σ q2.1 b q.1)] at hP1
          rw [sw_wl_set hkd (fun a' b' h' => sw_u_row σ q.1 h')] at hP1
          exact k l D c3 ad p e s m args below meth c H1 locs1 ls C0 hP1 hS1 hl
        rcases hdsc with h6 | ⟨h6, h7⟩
        · exact go .int (by rw [h6]; decide +kernel) rfl rfl
        · have hz2 : q.1 = 0 ∨ q.1 = 1 := by
            rcases hz with h | h | h
            · exact absurd (h7.symm.trans h) (by decide)
            · exact Or.inl h
            · exact Or.inr h
          rcases hz2 with h8 | h8
          · exact go .boolean (by rw [h6]; decide +kernel) (by rw [h8]; rfl) (by rw [h8]; rfl)
          · exact go .boolean (by rw [h6]; decide +kernel) (by rw [h8]; rfl) (by rw [h8]; rfl)
      · cases h2
    · cases hg
  · obtain ⟨q, hq, hg⟩ := Option.bind_eq_some_iff.mp hs
    obtain ⟨kd, hkd, hg⟩ := Option.bind_eq_some_iff.mp hg
    split at hg
    · next ha =>
      cases hg
      rw [sw_pR_eq hq]
      intro l D c3 ad p e s m args below meth c H locs ls C hP hS hl
      have he := sw_wl_at (c3 := c3) (ad := ad) (ρ := ρ) (σ := σ) hkd
      have kk := k l D c3 ad p e s m args below meth c H locs ls C hP hS hl
      obtain ⟨k1, k2⟩ := kd
      dsimp only at ha kk
      have e3 : k1 = 100 ∨ k1 = 101 ∨ k1 = 102 := by omega
      rcases e3 with rfl | rfl | rfl
      · exact va_alen C.1 C.2.1 C.2.2.2.2.2.2.2.1 hP q.1 0 he rfl Int32.ofInt_eq_ofNat.symm hd kk
      · exact va_alen C.1 C.2.1 C.2.2.2.2.2.2.2.1 hP q.1 1 he rfl Int32.ofInt_eq_ofNat.symm hd kk
      · exact va_alen C.1 C.2.1 C.2.2.2.2.2.2.2.1 hP q.1 2 he rfl Int32.ofInt_eq_ofNat.symm hd kk
    · cases hg
end Step
def sw_adv (ly : sw_Ly) (ρ : sw_Rf) (nL : Nat) (I : List (Option sw_I)) : Nat → Nat → sw_L → List sw_Vl → sw_S → Option (Nat × sw_L × List sw_Vl × sw_S)
  | 0, pc, L, st, σ => some (pc, L, st, σ)
  | n + 1, pc, L, st, σ => (I[pc]?).bind fun o => o.bind fun x => (sw_st ly ρ nL x pc L st σ).bind fun g => sw_adv ly ρ nL I n g.1 g.2.1 g.2.2.1 g.2.2.2
/-- a block of instructions that ask for nothing -/
theorem sw_blk {ly : sw_Ly} {ρ : sw_Rf} {M : sw_M} {I : List (Option sw_I)} {Q : Option sw_Vl → sw_S → Prop} (hI : sw_Ok M I) : ∀ (n : Nat) {pc : Nat} {L : sw_L} {st : List sw_Vl} {σ : sw_S} (pc' : Nat) (L' : sw_L) (st' : List sw_Vl) (σ' : sw_S), sw_adv ly ρ M.2.2.1 I n pc L st σ = some (pc', L', st', σ') → sw_E ly ρ M pc' L' st' σ' Q → sw_E ly ρ M pc L st σ Q
  | 0, pc, L, st, σ, pc', L', st', σ', h, k => by
    cases h
    exact k
  | n + 1, pc, L, st, σ, pc', L', st', σ', h, k => by
    obtain ⟨o, ho, h1⟩ := Option.bind_eq_some_iff.mp h
    obtain ⟨x, hx, h2⟩ := Option.bind_eq_some_iff.mp h1
    obtain ⟨g, hg, h3⟩ := Option.bind_eq_some_iff.mp h2
    subst hx
    exact sw_step hI ho hg (sw_blk hI n pc' L' st' σ' h3 k)
