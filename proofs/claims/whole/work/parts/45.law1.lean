/-! THE CLAIM OUT OF ONE WALK OF THE LAW'S BODY. Your part is whole_start (and what it stands on); all else here is the same for every law, but numbers. -/
def R_law : String := "ShaftWinderLaw"
def lw_P (b : Addr) (xs : List Int32) (args : Array Value) (s : State) : Prop := args = #[.ref b] ∧ s.IntsAt b xs ∧ xs.length ≤ 3072 ∧ (Jvm.Cond.and given_1 narrow_1).before args s = true
def lw_Q (_ : Array Value) (s : State) (o : Outcome) (t : State) : Prop := o = .returned (some (.int 1)) ∧ Framed s o t [] 600000 7302250
def lw_Z (below : List Frame) (a : Array Value) (s : State) : State → Prop := fun t => ∃ o, t.status = .running ∧ Ended t below o ∧ lw_Q a s o t
/-- the law's own end, with 1 on the stack, nothing written that was there before, its room as the claim has it -/
theorem lw_ret {p : Program} {l : Launch} {e : Env} {s : State} {m : MethodId} {below : List Frame} {meth : Method} {c : Code} {b : Nat} (hx : p.tables.exec = Jvm.exec) (hb : c.code = code) (hr : meth.sig.returnType = ret) (hlocks : meth.locks = false) {pc : Nat} {H : Heap} {ls : Array Slot} (hdg : decode code pc = .ok (.ireturn, 1)) : W p l e room_1 s m #[Value.ref b] below meth c H [] 600000 7302250 (lw_Z below #[Value.ref b] s) (F0 m pc ls [.int 1]) := by
  intro T hT X
  obtain ⟨fs, hret, hrun, hended, hW, hframe⟩ := X.leave (v := some (.int 1)) (hlocks := hlocks) (fun h => by rw [hr] at h; cases h)
  have hmeth' : T.vm.method? m = some meth := X.method'
  refine ⟨T.setFrames fs, ?_, .returned (some (.int 1)), hrun, hended, rfl, ⟨_, rfl⟩, hW, hframe⟩
  jvm_step X.here [X.here.top, hx, hb, hdg, hmeth', hr, ret, narrow_b1]
  (try refine ⟨rfl, ?_⟩); (try refine ⟨rfl, ?_⟩)
  first | (intro acts; rw [hret _ acts rfl rfl rfl]) | rw [hret _ _ rfl rfl rfl]
  exact Steps.refl _
/-- what holds at the law's entry: the machine, the code, the tables' words (any of lw_tbl by 'hts w (by decide +kernel)'), the script of L ints xs at the cell b, what the Statement gives of the start (any of its parts by flat_of_before) -/
def lw_At (p : Program) (s : State) (m : MethodId) (meth : Method) (c : Code) (b L : Nat) (xs : Nat → Int32) : Prop :=
  p.tables.exec = Jvm.exec ∧ c.code = code ∧ meth.sig.returnType = ret ∧ c.maxLocals = 4 ∧ s.vm.findClass R_law = some m.cls ∧ (∀ w ∈ lw_tbl, w.before #[Value.ref b] s = true) ∧ va_X b L xs s s.heap ∧ b < s.heap.size ∧ meth.locks = false ∧ (Jvm.Cond.and given_1 narrow_1).before #[Value.ref b] s = true
theorem sw_callW {p : Program} {l : Launch} {e : Env} {R : Room} {s : State} {m : MethodId} {args : Array Value} {below : List Frame} {meth : Method} {c : Code} {H : Heap} {locs : List Loc} {k0 n0 : Nat} {Qw : State → Prop} {D : va_G} {c3 : sw_C3} {ad : Nat → Nat} {ly : sw_Ly} {ρ : sw_Rf} {σ : sw_S} {A0 : Nat → Prop} {H0 : Heap} {cc : ByteArray} {own : String} {nL pc : Nat} {ls : Array Slot}
    {M' : sw_M} {Q' : Option sw_Vl → sw_S → Prop} {idx n o ci kn N : Nat} {T : u_T} (hx : p.tables.exec = Jvm.exec) (hb : c.code = cc) (hml : c.maxLocals = nL) (hown : s.vm.findClass own = some m.cls) (hts : ∀ w ∈ sw_tb, w.before args s = true) (hK : va_K D sw_cl (sw_tys c3) s) (hc : sw_calV M' n) (hl : Cond.methodLink own idx M'.1 ∈ sw_tb) (hf : M'.2.2.2.2.1 + 1 ≤ R.frames ∧ 8 + (M'.2.2.1 + 11) + M'.2.2.2.2.2 ≤ R.locals) (hk : ly[o]? = some (ci, kn)) (hcl : sw_cl[ci]? = some (M'.1.cls, T, N)) (as : List sw_Vl) (rest : List Value) (hn : as.length = n) (hrest : (rest.map fun v => v.category).sum ≤ 8) (hj : sw_inj ad ly.length) (hC : sw_Con ly ρ M' (.inr (.inr o) :: as) σ Q') (hP : va_P D sw_cl (sw_wl c3 ad ly ρ σ) H) (hS : va_S A0 H0 H locs) (hA1 : ∀ i, i < ly.length → A0 (ad i)) (hA2 : ∀ q, H0.size ≤ q → A0 q) (hls : ls.size = nL) (hdg : decode cc pc = .ok (.invokevirtual idx, 3)) (hroom : k0 + 0 ≤ R.cells ∧ n0 + 0 ≤ R.slots)
    (kk : ∀ (r : Option sw_Vl) (σ' : sw_S) (H1 : Heap) (locs1 : List Loc), Q' r σ' → va_P D sw_cl (sw_wl c3 ad ly ρ σ') H1 → va_S A0 H0 H1 locs1 → W p l e R s m args below meth c H1 locs1 k0 n0 Qw (F0 m (pc + 3) ls ((r.map (sw_tv ad)).toList ++ rest))) : W p l e R s m args below meth c H locs k0 n0 Qw (F0 m pc ls ((as.map (sw_tv ad)).reverse ++ .ref (ad o) :: rest)) := by
  obtain ⟨⟨hcode, hini, hd⟩, hins, hsel⟩ := hc
  have hG : GoodIn sw_tb (wsV own idx M'.1.cls M'.1 (sw_ws M')) := by
    intro w hw
    rcases List.mem_append.mp hw with hw | hw
    · refine ⟨?_, good_of_word (List.all_eq_true.mp sw_goodB w ?_)⟩ <;>
      · simp only [List.mem_cons, List.not_mem_nil, or_false] at hw
        rcases hw with rfl | rfl | rfl | rfl
        · exact hl
        · exact hins
        · exact hsel
        · exact hini
    · exact sw_good hcode w hw
  have hci : ci < 9 := (List.getElem?_eq_some_iff.mp hcl).1
  have he := sw_wl_at (c3 := c3) (ad := ad) (ρ := ρ) (σ := σ) hk
  have hce : sw_ce c3 ad ρ σ o (ci, kn) = .inr (ci, (List.range (sw_N ci)).map fun j => sw_fv ad (ρ o j) (σ o j)) := by
    unfold sw_ce
    rw [if_neg (by show ¬ ci = 100; omega), if_neg (by show ¬ ci = 101; omega), if_neg (by show ¬ ci = 102; omega)]
  rw [hce] at he
  have hrun := va_runV (R := R) (C := M'.1.cls) (H := H) (locs := locs) (cells := k0) (slots := n0) (below := below) (meth := meth) (e := e) (As := as.map (sw_tv ad)) (b := ad o) (rest := rest) (g := F0 m pc ls ((as.map (sw_tv ad)).reverse ++ .ref (ad o) :: rest)) ⟨hx, hb, hml, hown, hts⟩ (hC l D c3 ad H.size hj) (cwV n hts hG rfl rfl rfl ⟨rfl, hd⟩ hf) ⟨sw_blind, va_recv hK hP hcl he, fun U hU hW => ⟨rfl, by rw [hU], by rw [hU]; exact hP, va_K.moved hW.alike hK⟩⟩ rfl (by rw [List.length_map]; exact hn) hls rfl (by show 2 * 0 + _ ≤ 8; rw [Nat.mul_zero, Nat.zero_add]; exact hrest) hdg hroom
  exact sw_go hrun hS hA1 hA2 kk
/-! THE LAW'S ROWS: from this place of its code, with this stack, it comes to its end -/
def lw_E (p : Program) (l : Launch) (e : Env) (s : State) (m : MethodId) (below : List Frame) (meth : Method) (c : Code) (b : Nat) (D : va_G) (c3 : sw_C3) (ad : Nat → Nat) (pc i : Nat) (st : List sw_Vl) (σ : sw_S) : Prop :=
  ∀ (H : Heap) (locs : List Loc) (ls : Array Slot), va_P D sw_cl (sw_wl c3 ad sw_ly sw_rho σ) H → va_S (fun q : Nat => s.heap.size ≤ q) s.heap H locs → lv_has ls 4 [(3, .int (nI i)), (2, .ref (ad 26)), (1, .ref (ad 0)), (0, .ref b)] → W p l e room_1 s m #[Value.ref b] below meth c H locs 600000 7302250 (lw_Z below #[Value.ref b] s) (F0 m pc ls (st.map (sw_tv ad)))
def lw_X (p : Program) (s : State) (m : MethodId) (meth : Method) (c : Code) (b L : Nat) (xs : Nat → Int32) (D : va_G) (c3 : sw_C3) (ad : Nat → Nat) : Prop := lw_At p s m meth c b L xs ∧ va_K D sw_cl (sw_tys c3) s ∧ sw_inj ad sw_ly.length ∧ (∀ i, i < sw_ly.length → s.heap.size ≤ ad i) ∧ L ≤ 3072
theorem sw_tb_lw {args : Array Value} {s : State} (h : ∀ w ∈ lw_tbl, w.before args s = true) : ∀ w ∈ sw_tb, w.before args s = true := fun w hw => h w (List.mem_filter.mp hw).1
theorem sw_i32 (x : Int32) : Int32.ofInt x.toInt = x := Int32.ofInt_toInt x
theorem sw_i32g (x : Int32) : sw_g x.toInt := ⟨Int32.le_toInt x, Int32.toInt_lt x⟩
section LawRows
variable {p : Program} {l : Launch} {e : Env} {s : State} {m : MethodId} {below : List Frame} {meth : Method} {c : Code} {b L : Nat} {xs : Nat → Int32} {D : va_G} {c3 : sw_C3} {ad : Nat → Nat} {pc i : Nat} {st : List sw_Vl} {σ : sw_S}
theorem lr_arg (X : lw_X p s m meth c b L xs D c3 ad) (hi : i + 6 ≤ L) (k : Nat) (z : Int) (hz : Int32.ofInt z = nI k) (hk : k < 6) (d0 : decode code pc = .ok (.aload_n 0, 1)) (d1 : decode code (pc + 1) = .ok (.iload_n 3, 1)) (d2 : decode code (pc + 2) = .ok (.iconst z, 1)) (d3 : decode code (pc + 3) = .ok (.iadd, 1)) (d4 : decode code (pc + 4) = .ok (.iaload, 1)) (kk : lw_E p l e s m below meth c b D c3 ad (pc + 5) i (.inl (xs (i + k)).toInt :: st) σ) : lw_E p l e s m below meth c b D c3 ad pc i st σ := by
  obtain ⟨⟨hx, hb, hr, hml, hown, hts, hX, hbl, hlocks, hgv⟩, hK, hj, hA, hL⟩ := X
  intro H locs ls hP hS hl
  refine lv_aload_n hx hb d0 rfl (lv_at hl 3 rfl) ?_
  refine lv_iload_n hx hb d1 rfl (lv_at hl 0 rfl) ?_
  refine lv_iconst (v := nI k) hx hb d2 hz ?_
  refine lv_iadd hx hb d3 ?_
  rw [nI_add]
  refine va_sld hx hb hX hbl (Nat.not_le.mpr hbl) hS (vp_in_nI (by omega) (by omega)) d4 ?_
  rw [nI_clamp (by omega)]
  have h9 := kk H locs ls hP hS hl
  simp only [List.map_cons, sw_tv, sw_i32] at h9
  exact h9
theorem lr_x (X : lw_X p s m meth c b L xs D c3 ad) (d0 : decode code pc = .ok (.aload_n 1, 1)) (kk : lw_E p l e s m below meth c b D c3 ad (pc + 1) i (.inr (.inr 0) :: st) σ) : lw_E p l e s m below meth c b D c3 ad pc i st σ := by
  intro H locs ls hP hS hl
  exact lv_aload_n X.1.1 X.1.2.1 d0 rfl (lv_at hl 2 rfl) (kk H locs ls hP hS hl)
theorem lr_m (X : lw_X p s m meth c b L xs D c3 ad) (d0 : decode code pc = .ok (.aload_n 2, 1)) (kk : lw_E p l e s m below meth c b D c3 ad (pc + 1) i (.inr (.inr 26) :: st) σ) : lw_E p l e s m below meth c b D c3 ad pc i st σ := by
  intro H locs ls hP hS hl
  exact lv_aload_n X.1.1 X.1.2.1 d0 rfl (lv_at hl 1 rfl) (kk H locs ls hP hS hl)
theorem lr_call {M' : sw_M} {Q' : Option sw_Vl → sw_S → Prop} {idx n o ci kn N : Nat} {T : u_T} (X : lw_X p s m meth c b L xs D c3 ad) (hc : sw_calV M' n) (hl : Cond.methodLink R_law idx M'.1 ∈ sw_tb) (hf : M'.2.2.2.2.1 + 1 ≤ 9 ∧ 8 + (M'.2.2.1 + 11) + M'.2.2.2.2.2 ≤ 338) (hk : sw_ly[o]? = some (ci, kn)) (hcl : sw_cl[ci]? = some (M'.1.cls, T, N)) (as rest : List sw_Vl) (hn : as.length = n) (h4 : rest.length ≤ 4) (hC : sw_Con sw_ly sw_rho M' (.inr (.inr o) :: as) σ Q') (hst : st = as.reverse ++ .inr (.inr o) :: rest) (d : decode code pc = .ok (.invokevirtual idx, 3)) (kk : ∀ (r : Option sw_Vl) (σ' : sw_S), Q' r σ' → lw_E p l e s m below meth c b D c3 ad (pc + 3) i (r.toList ++ rest) σ') : lw_E p l e s m below meth c b D c3 ad pc i st σ := by
  subst hst
  obtain ⟨⟨hx, hb, hr, hml, hown, hts, hX, hbl, hlocks, hgv⟩, hK, hj, hA, hL⟩ := X
  intro H locs ls hP hS hls
  have h9 := sw_callW (R := room_1) (k0 := 600000) (n0 := 7302250) (Qw := lw_Z below #[Value.ref b] s) (below := below) (meth := meth) (l := l) (e := e) (pc := pc) (ls := ls) hx hb hml hown (sw_tb_lw hts) hK hc hl hf hk hcl as (rest.map (sw_tv ad)) hn (sw_rest ad rest h4) hj hC hP hS hA (fun q hq => hq) hls.1 d ⟨Nat.le_refl _, Nat.le_refl _⟩ (fun r σ' H1 locs1 hq hP1 hS1 => by
    have h8 := kk r σ' hq H1 locs1 ls hP1 hS1 hls
    cases r <;> exact h8)
  rw [List.map_append, List.map_reverse]
  exact h9
theorem lr_eq (X : lw_X p s m meth c b L xs D c3 ad) {x : Int} {off : Int} (tgt : Nat) (ht : (pc : Int) + off = (tgt : Int)) (d : decode code pc = .ok (.if_icmp .eq off, 3)) (kk : lw_E p l e s m below meth c b D c3 ad tgt i [] σ) : lw_E p l e s m below meth c b D c3 ad pc i [.inl x, .inl x] σ := by
  intro H locs ls hP hS hl
  exact lv_icmp_eq X.1.1 X.1.2.1 d ht (fun _ => kk H locs ls hP hS hl) (fun z => absurd rfl z)
theorem lr_leq (X : lw_X p s m meth c b L xs D c3 ad) {x : Int} {off : Int} (tgt : Nat) (d0 : decode code pc = .ok (.lcmp, 1)) (ht : ((pc + 1 : Nat) : Int) + off = (tgt : Int)) (d : decode code (pc + 1) = .ok (.ifCond .eq off, 3)) (kk : lw_E p l e s m below meth c b D c3 ad tgt i [] σ) : lw_E p l e s m below meth c b D c3 ad pc i [.inr (.inl x), .inr (.inl x)] σ := by
  intro H locs ls hP hS hl
  refine W.lcmp X.1.1 X.1.2.1 d0 ?_
  have e0 : lg_cmp (Int64.ofInt x) (Int64.ofInt x) = 0 := by
    unfold lg_cmp
    rw [if_neg (by simp), if_pos rfl]
  rw [e0]
  exact lv_if_eq X.1.1 X.1.2.1 d ht (fun _ => kk H locs ls hP hS hl) (fun z => absurd rfl z)
theorem lr_next (X : lw_X p s m meth c b L xs D c3 ad) (kk : lw_E p l e s m below meth c b D c3 ad 18 (i + 6) [] σ) : lw_E p l e s m below meth c b D c3 ad 1367 i [] σ := by
  intro H locs ls hP hS hl
  refine lv_iinc (v := nI (i + 6)) (lv' := [(3, .int (nI (i + 6))), (2, .ref (ad 26)), (1, .ref (ad 0)), (0, .ref b)]) X.1.1 X.1.2.1 (show decode code 1367 = .ok (.iinc 3 6, 3) by decide +kernel) hl (k := 0) rfl (nI_add i 6) (by decide) rfl (fun ls hl => ?_)
  refine lv_goto (tgt := 18) X.1.1 X.1.2.1 (show decode code 1370 = .ok (.goto (-1352), 3) by decide +kernel) (by decide) ?_
  exact kk H locs ls hP hS hl
end LawRows
