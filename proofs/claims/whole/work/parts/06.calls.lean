theorem sw_goodB : sw_tb.all goodWord = true := List.all_eq_true.mpr (fun w hw => (List.mem_filter.mp hw).2)
theorem sw_good {M : sw_M} (h : Cond.code M.1 M.2.1 M.2.2.1 M.2.2.2.1 ∈ sw_tb) : GoodIn sw_tb (sw_ws M) := by
  have hm : ∀ w ∈ sw_ws M, w ∈ sw_tb := by
    intro w hw
    rcases List.mem_cons.mp hw with e | e
    · rw [e]; exact h
    · exact e
  exact fun w hw => ⟨hm w hw, good_of_word (List.all_eq_true.mp sw_goodB w (hm w hw))⟩
/-- what the tables say of a method that is called: its code, its class, how many arguments -/
def sw_cal (M : sw_M) (n : Nat) : Prop := Cond.code M.1 M.2.1 M.2.2.1 M.2.2.2.1 ∈ sw_tb ∧ Cond.initialized M.1.cls ∈ sw_tb ∧ (M.1.cls ≠ "java/lang/invoke/MethodHandle" ∧ M.1.cls ≠ "java/lang/invoke/VarHandle" ∧ (parseMethodDescriptor M.1.desc).map (fun d => d.parameters.length) = some n)
def sw_calS (M : sw_M) (n : Nat) : Prop := sw_cal M n ∧ Cond.static M.1 ∈ sw_tb
def sw_calV (M : sw_M) (n : Nat) : Prop := sw_cal M n ∧ Cond.instanceMethod M.1 ∈ sw_tb ∧ Cond.selects M.1.cls M.1 M.1 ∈ sw_tb
def sw_fit (M M' : sw_M) : Prop := M'.2.2.2.2.1 + 1 ≤ M.2.2.2.2.1 ∧ 8 + (M'.2.2.1 + 11) + M'.2.2.2.2.2 ≤ M.2.2.2.2.2
theorem sw_rest (ad : Nat → Nat) : ∀ (rest : List sw_Vl), rest.length ≤ 4 → ((rest.map (sw_tv ad)).map fun v => v.category).sum ≤ 8 := by
  have key : ∀ (rest : List sw_Vl), ((rest.map (sw_tv ad)).map fun v => v.category).sum ≤ 2 * rest.length := by
    intro rest
    induction rest with
    | nil => simp
    | cons v r ih =>
      simp only [List.map_cons, List.sum_cons, List.length_cons]
      have : (sw_tv ad v).category ≤ 2 := by rw [sw_tv_cat]; rcases v with x | x | a <;> simp [sw_cat]
      omega
  intro rest h
  have := key rest
  omega
theorem sw_go {p : Program} {l : Launch} {e : Env} {R : Room} {s : State} {m : MethodId} {args : Array Value} {below : List Frame} {meth : Method} {c : Code} {H : Heap} {locs : List Loc} {Qw : State → Prop} {D : va_G} {c3 : sw_C3} {ad : Nat → Nat} {ly : sw_Ly} {ρ : sw_Rf} {Q' : Option sw_Vl → sw_S → Prop} {a : Array Value} {pc k0 n0 : Nat} {ls : Array Slot} {st0 rest : List Value} {A0 : Nat → Prop} {H0 : Heap}
    (hr : va_Run p l e R s m args below meth c H locs k0 n0 0 0 (F0 m pc ls st0) rest (sw_Qc D c3 ad ly ρ Q' (sw_A ad ly.length H.size) a) (sw_A ad ly.length H.size)) (hS : va_S A0 H0 H locs) (hA1 : ∀ i, i < ly.length → A0 (ad i)) (hA2 : ∀ q, H0.size ≤ q → A0 q)
    (kk : ∀ (r : Option sw_Vl) (σ' : sw_S) (H1 : Heap) (locs1 : List Loc), Q' r σ' → va_P D sw_cl (sw_wl c3 ad ly ρ σ') H1 → va_S A0 H0 H1 locs1 → W p l e R s m args below meth c H1 locs1 k0 n0 Qw (F0 m (pc + 3) ls ((r.map (sw_tv ad)).toList ++ rest))) : W p l e R s m args below meth c H locs k0 n0 Qw (F0 m pc ls st0) := by
  have hA : ∀ q, sw_A ad ly.length H.size q → A0 q := by
    intro q h
    rcases h with ⟨i, hi, rfl⟩ | h
    · exact hA1 i hi
    · exact hA2 q (Nat.le_trans hS.1 h)
  intro T hT X
  obtain ⟨v, st₀, t, T', L, h0, X', hL, e1, e2, ⟨⟨r, σ', hv, hq, hP', hK'⟩, hz, hk⟩, st⟩ := hr T hT X
  cases hv
  rw [h0] at hz hk
  obtain ⟨t2, a1, b1⟩ := kk r σ' T'.heap (locs ++ L) hq (by rw [e1]; exact hP')
    ⟨Nat.le_trans hS.1 (by rw [e1]; exact hz), fun q h1 h2 => by rw [e1, hk q (Nat.lt_of_lt_of_le h1 hS.1) (fun z => h2 (hA q z))]; exact hS.2.1 q h1 h2, fun q hq => by
      rcases List.mem_append.mp hq with h | h
      · exact hS.2.2 q h
      · exact hA _ (hL q h)⟩ T' rfl X'
  exact ⟨t2, st t2 a1, b1⟩
theorem sw_blind {D : va_G} {c3 : sw_C3} {ad : Nat → Nat} {ly : sw_Ly} {ρ : sw_Rf} {σ : sw_S} {args : List sw_Vl} {sz : Nat} : FrameBlind (sw_Pc D c3 ad ly ρ σ args sz) := fun a U g mk q => by
  obtain ⟨q0, q1, qP, qK⟩ := q
  exact ⟨q0, q1, qP, va_K.moved (u := U) (U := U.calling g mk a) (Vm.Alike.refl U.vm) qK⟩
section Calls
variable {ly : sw_Ly} {ρ : sw_Rf} {M M' : sw_M} {I : List (Option sw_I)} {pc : Nat} {L : sw_L} {σ : sw_S} {Q Q' : Option sw_Vl → sw_S → Prop}
theorem sw_callS (hI : sw_Ok M I) {idx a b n : Nat} {z : Int} (h : I[pc]? = some (some (.invokestatic idx, a, b, z))) (hc : sw_calS M' n) (hl : Cond.methodLink M.1.cls idx M'.1 ∈ sw_tb) (hf : sw_fit M M') (as rest : List sw_Vl) {st : List sw_Vl} (hn : as.length = n) (hst : st = as.reverse ++ rest) (h4 : rest.length ≤ 4) (nx : Nat) (hnx : pc + 3 = nx) (hC : sw_Con ly ρ M' as σ Q') (k : ∀ (r : Option sw_Vl) (σ' : sw_S), Q' r σ' → sw_E ly ρ M nx L (r.toList ++ rest) σ' Q) : sw_E ly ρ M pc L st σ Q := by
  subst hnx
  subst hst
  obtain ⟨⟨hcode, hini, hd⟩, hsta⟩ := hc
  intro l D c3 ad p e s m args below meth c H locs ls C hP hS hls
  have C0 := C
  obtain ⟨hx, hb, hr, hml, hown, hts, hlk, hK, hj⟩ := C
  have hG : GoodIn sw_tb (va_wsS M.1.cls idx M'.1 (sw_ws M')) := by
    intro w hw
    rcases List.mem_append.mp hw with hw | hw
    · refine ⟨?_, good_of_word (List.all_eq_true.mp sw_goodB w ?_)⟩ <;>
      · simp only [List.mem_cons, List.not_mem_nil, or_false] at hw
        rcases hw with rfl | rfl | rfl
        · exact hl
        · exact hsta
        · exact hini
    · exact sw_good hcode w hw
  have hrun := va_runS (R := sw_rm M) (H := H) (locs := locs) (cells := 0) (slots := 0) (below := below) (meth := meth) (e := e) (As := as.map (sw_tv ad)) (rest := rest.map (sw_tv ad)) (g := F0 m pc ls ((as.reverse ++ rest).map (sw_tv ad))) ⟨hx, hb, hml, hown, hts⟩ (hC l D c3 ad H.size hj) (va_cwS n hts hG rfl rfl rfl hd hf) ⟨sw_blind, fun U hU hW => ⟨rfl, by rw [hU], by rw [hU]; exact hP, va_K.moved hW.alike hK⟩⟩ rfl (by rw [List.length_map]; exact hn) hls.1 (by simp) (by show 2 * 0 + _ ≤ 8; rw [Nat.mul_zero, Nat.zero_add]; exact sw_rest ad rest h4) (sw_dec hI h).1 ⟨Nat.le_refl _, Nat.le_refl _⟩
  refine sw_go hrun hS (fun i hi => Or.inl ⟨i, hi, rfl⟩) (fun q hq => Or.inr hq) (fun r σ' H1 locs1 hq hP1 hS1 => ?_)
  have kk := k r σ' hq l D c3 ad p e s m args below meth c H1 locs1 ls C0 hP1 hS1 hls
  cases r <;> exact kk
theorem sw_callV (hI : sw_Ok M I) {idx a b n : Nat} {z : Int} (h : I[pc]? = some (some (.invokevirtual idx, a, b, z))) (hc : sw_calV M' n) (hl : Cond.methodLink M.1.cls idx M'.1 ∈ sw_tb) (hf : sw_fit M M') (o : Nat) {ci kn : Nat} {T : u_T} {N : Nat} (hk : ly[o]? = some (ci, kn)) (hcl : sw_cl[ci]? = some (M'.1.cls, T, N)) (as rest : List sw_Vl) {st : List sw_Vl} (hn : as.length = n) (hst : st = as.reverse ++ .inr (.inr o) :: rest) (h4 : rest.length ≤ 4) (nx : Nat) (hnx : pc + 3 = nx) (hC : sw_Con ly ρ M' (.inr (.inr o) :: as) σ Q') (k : ∀ (r : Option sw_Vl) (σ' : sw_S), Q' r σ' → sw_E ly ρ M nx L (r.toList ++ rest) σ' Q) : sw_E ly ρ M pc L st σ Q := by
  subst hnx
  subst hst
  obtain ⟨⟨hcode, hini, hd⟩, hins, hsel⟩ := hc
  intro l D c3 ad p e s m args below meth c H locs ls C hP hS hls
  have C0 := C
  obtain ⟨hx, hb, hr, hml, hown, hts, hlk, hK, hj⟩ := C
  have hG : GoodIn sw_tb (wsV M.1.cls idx M'.1.cls M'.1 (sw_ws M')) := by
    intro w hw
    rcases List.mem_append.mp hw with hw | hw
    · refine ⟨?_, good_of_word (List.all_eq_true.mp sw_goodB w ?_)⟩ <;>
      · simp only [List.mem_cons, List.not_mem_nil, or_false] at hw
        rcases hw with rfl | rfl | rfl | rfl
        · exact hl
        · exact hins
        · exact hsel
        · exact hini
    · exact sw_good hcode w hw
  have hci : ci < 9 := (List.getElem?_eq_some_iff.mp hcl).1
  have he := sw_wl_at (c3 := c3) (ad := ad) (ρ := ρ) (σ := σ) hk
  have hce : sw_ce c3 ad ρ σ o (ci, kn) = .inr (ci, (List.range (sw_N ci)).map fun j => sw_fv ad (ρ o j) (σ o j)) := by
    unfold sw_ce
    rw [if_neg (by show ¬ ci = 100; omega), if_neg (by show ¬ ci = 101; omega), if_neg (by show ¬ ci = 102; omega)]
  rw [hce] at he
  have hrun := va_runV (R := sw_rm M) (C := M'.1.cls) (H := H) (locs := locs) (cells := 0) (slots := 0) (below := below) (meth := meth) (e := e) (As := as.map (sw_tv ad)) (b := ad o) (rest := rest.map (sw_tv ad)) (g := F0 m pc ls ((as.reverse ++ .inr (.inr o) :: rest).map (sw_tv ad))) ⟨hx, hb, hml, hown, hts⟩ (hC l D c3 ad H.size hj) (cwV n hts hG rfl rfl rfl ⟨rfl, hd⟩ hf) ⟨sw_blind, va_recv hK hP hcl he, fun U hU hW => ⟨rfl, by rw [hU], by rw [hU]; exact hP, va_K.moved hW.alike hK⟩⟩ rfl (by rw [List.length_map]; exact hn) hls.1 (by simp [sw_tv]) (by show 2 * 0 + _ ≤ 8; rw [Nat.mul_zero, Nat.zero_add]; exact sw_rest ad rest h4) (sw_dec hI h).1 ⟨Nat.le_refl _, Nat.le_refl _⟩
  refine sw_go hrun hS (fun i hi => Or.inl ⟨i, hi, rfl⟩) (fun q hq => Or.inr hq) (fun r σ' H1 locs1 hq hP1 hS1 => ?_)
  have kk := k r σ' hq l D c3 ad p e s m args below meth c H1 locs1 ls C0 hP1 hS1 hls
  cases r <;> exact kk
end Calls
