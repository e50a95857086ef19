/-! MAKING the objects -/
theorem sw_aI : Cond.arrayClass .int ∈ sw_tb := (sw_in 57 (by decide +kernel) rfl)
theorem sw_aZ : Cond.arrayClass .boolean ∈ sw_tb := (sw_in 163 (by decide +kernel) rfl)
theorem sw_oI : Cond.code objectInit ⟨#[0xb1]⟩ 1 none ∈ sw_tb := sw_in 20 (by decide +kernel) rfl
abbrev sw_PcI (D : va_G) (c3 : sw_C3) (av : List Value) (ws : va_W) (sz : Nat) : Array Value → State → Prop := va_Pc av (fun U => U.heap.size = sz ∧ va_P D sw_cl ws U.heap ∧ va_K D sw_cl (sw_tys c3) U ∧ va_AO "ShaftWinder$Sheet" U ∧ va_D (fun _ => True) ws)
abbrev sw_QcI (D : va_G) (c3 : sw_C3) (F : (Nat → Nat) → va_W) (A : Nat → Prop) : Array Value → State → Outcome → State → Prop := va_Qv (fun _ : Nat → Nat => True) (fun u t => va_P D sw_cl (F u) t.heap ∧ va_K D sw_cl (sw_tys c3) t ∧ va_D A (F u)) A
theorem sw_blI {D : va_G} {c3 : sw_C3} {av : List Value} {ws : va_W} {sz : Nat} : FrameBlind (sw_PcI D c3 av ws sz) := fun a U g mk q => by
  obtain ⟨q0, q1, qP, qK, qA, qD⟩ := q
  exact ⟨q0, q1, qP, va_K.moved (u := U) (U := U.calling g mk a) (Vm.Alike.refl U.vm) qK, va_AO.moved (u := U) (U := U.calling g mk a) (Vm.Alike.refl U.vm) qA, qD⟩
section Make
variable {p : Program} {l : Launch} {e : Env} {R : Room} {s : State} {m : MethodId} {args : Array Value} {below : List Frame} {meth : Method} {c : Code} {H : Heap} {locs : List Loc} {cells slots : Nat} {Q : State → Prop} {cc : ByteArray} {pc : Nat} {ls : Array Slot} {rest : List Value} {D : va_G} {c3 : sw_C3} {A : Nat → Prop} {ws : va_W} {H0 : Heap}
theorem sw_newi (hexec : p.tables.exec = Jvm.exec) (hb : c.code = cc) (harr : (Cond.arrayClass .int).before args s = true) (hK : va_K D sw_cl (sw_tys c3) s) (hP : va_P D sw_cl ws H) (hD : va_D A ws) (hS : va_S A H0 H locs) (hA : ∀ q, H0.size ≤ q → A q) {n : Int32} {N : Nat} (hn : ¬ n < 0) (hN : n.toNatClampNeg = N) (hbytes : N * componentBytes .int ≤ 536870912) (hcells : cells + 1 ≤ R.cells) (hslots : slots + N ≤ R.slots) (hdg : decode cc pc = .ok (.newarray .int, 2))
    (kk : ∀ (q : Nat) (H1 : Heap), va_P D sw_cl (ws ++ [(q, .inl (c3.1, N, .inl fun _ => 0))]) H1 → va_D A (ws ++ [(q, .inl (c3.1, N, .inl fun _ => 0))]) → va_S A H0 H1 locs → W p l e R s m args below meth c H1 locs (cells + 1) (slots + N) Q (F0 m (pc + 2) ls (.ref q :: rest))) : W p l e R s m args below meth c H locs cells slots Q (F0 m pc ls (.int n :: rest)) := by
  refine va_newa (atype := .int) (ty := .int) (a0 := (N, .inl fun _ => 0)) hexec hb harr rfl hK hP hD hS hA (fun cA => rfl) hn hN hbytes hcells hslots hdg (fun q cA H1 hK1 hP1 hD1 hS1 => ?_)
  have e1 : s.vm.findClass ("[" ++ (FieldType.int).toString) = some cA := (hK1.2 3 (cA, .int) rfl).2
  have e2 : s.vm.findClass ("[" ++ (FieldType.int).toString) = some c3.1 := (hK.2 0 (c3.1, .int) rfl).2
  have e3 : cA = c3.1 := Option.some.inj (e1.symm.trans e2)
  subst e3
  exact kk q H1 hP1 hD1 hS1
theorem sw_newz (hexec : p.tables.exec = Jvm.exec) (hb : c.code = cc) (harr : (Cond.arrayClass .boolean).before args s = true) (hK : va_K D sw_cl (sw_tys c3) s) (hP : va_P D sw_cl ws H) (hD : va_D A ws) (hS : va_S A H0 H locs) (hA : ∀ q, H0.size ≤ q → A q) {n : Int32} {N : Nat} (hn : ¬ n < 0) (hN : n.toNatClampNeg = N) (hbytes : N * componentBytes .boolean ≤ 536870912) (hcells : cells + 1 ≤ R.cells) (hslots : slots + N ≤ R.slots) (hdg : decode cc pc = .ok (.newarray .boolean, 2))
    (kk : ∀ (q : Nat) (H1 : Heap), va_P D sw_cl (ws ++ [(q, .inl (c3.2.1, N, .inl fun _ => 0))]) H1 → va_D A (ws ++ [(q, .inl (c3.2.1, N, .inl fun _ => 0))]) → va_S A H0 H1 locs → W p l e R s m args below meth c H1 locs (cells + 1) (slots + N) Q (F0 m (pc + 2) ls (.ref q :: rest))) : W p l e R s m args below meth c H locs cells slots Q (F0 m pc ls (.int n :: rest)) := by
  refine va_newa (atype := .boolean) (ty := .boolean) (a0 := (N, .inl fun _ => 0)) hexec hb harr rfl hK hP hD hS hA (fun cA => rfl) hn hN hbytes hcells hslots hdg (fun q cA H1 hK1 hP1 hD1 hS1 => ?_)
  have e1 : s.vm.findClass ("[" ++ (FieldType.boolean).toString) = some cA := (hK1.2 3 (cA, .boolean) rfl).2
  have e2 : s.vm.findClass ("[" ++ (FieldType.boolean).toString) = some c3.2.1 := (hK.2 1 (c3.2.1, .boolean) rfl).2
  have e3 : cA = c3.2.1 := Option.some.inj (e1.symm.trans e2)
  subst e3
  exact kk q H1 hP1 hD1 hS1
theorem sw_newS (hexec : p.tables.exec = Jvm.exec) (hb : c.code = cc) {own : String} {index : Nat} (hown : s.vm.findClass own = some m.cls) (hclink : (Cond.classLink own index "ShaftWinder$Sheet").before args s = true) (hover : va_AO "ShaftWinder$Sheet" s) (hK : va_K D sw_cl (sw_tys c3) s) (hP : va_P D sw_cl ws H) (hD : va_D A ws) (hS : va_S A H0 H locs) (hA : ∀ q, H0.size ≤ q → A q) {n : Int32} {N : Nat} (hn : ¬ n < 0) (hN : n.toNatClampNeg = N) (hbytes : N * 4 ≤ 536870912) (hcells : cells + 1 ≤ R.cells) (hslots : slots + N ≤ R.slots) (hdg : decode cc pc = .ok (.anewarray index, 3))
    (kk : ∀ (q : Nat) (H1 : Heap), va_P D sw_cl (ws ++ [(q, .inl (c3.2.2, N, .inr (.inr (.inr (.inr (fun _ => none))))))]) H1 → va_D A (ws ++ [(q, .inl (c3.2.2, N, .inr (.inr (.inr (.inr (fun _ => none))))))]) → va_S A H0 H1 locs → W p l e R s m args below meth c H1 locs (cells + 1) (slots + N) Q (F0 m (pc + 3) ls (.ref q :: rest))) : W p l e R s m args below meth c H locs cells slots Q (F0 m pc ls (.int n :: rest)) := by
  refine va_newq hexec hb hown hclink hover hK hP hD hS hA hn hN hbytes hcells hslots hdg (fun q cA H1 hK1 hP1 hD1 hS1 => ?_)
  obtain ⟨k1, m1, -, -, -, e1⟩ : va_RA s cA (.object "ShaftWinder$Sheet") := (hK1.2 3 (cA, .object "ShaftWinder$Sheet") rfl).2
  obtain ⟨k2, m2, -, -, -, e2⟩ : va_RA s c3.2.2 (.object "ShaftWinder$Sheet") := (hK.2 2 (c3.2.2, .object "ShaftWinder$Sheet") rfl).2
  have e3 : cA = c3.2.2 := Option.some.inj (e1.symm.trans e2)
  subst e3
  exact kk q H1 hP1 hD1 hS1
end Make
def sw_lyF : sw_Ly := [(1, 0), (100, 8421)]
def sw_rhoF : sw_Rf := fun i j => if i = 0 then (if j = 0 then some 2 else if j = 1 then some 1 else none) else none
def sw_lyS : sw_Ly := [(3, 0), (100, 401)]
def sw_rhoS : sw_Rf := fun i j => if i = 0 then (if j = 4 then some 1 else none) else none
/-- the limits of a new shaft -/
def sw_l10 : Nat → Int32 := fun j => Int32.ofInt (if j < 401 then 10 else 0)
theorem sp_forgetF (σ : sw_S) : sw_Con sw_lyF sw_rhoF M_X1_forget [.inr (.inr 0)] σ (fun r σ' => (sw_u σ 0 2 (-1)) = σ' ∧ r = none) := by
  refine sw_con (by decide) (Nat.le_of_ble_eq_true rfl) ?_
  refine sw_blk k_X1_forget 3 5 [(0, .inr (.inr 0))] [] (sw_u σ 0 2 (-1)) rfl ?_
  refine sw_vreturn k_X1_forget rfl rfl ?_
  exact ⟨rfl, rfl⟩
theorem sp_renewS (σ : sw_S) (d v a : Int) : sw_Con sw_lyS sw_rhoS M_X3_renew [.inr (.inr 0), .inl d, .inl v, .inl a] σ (fun r σ' => (sw_fl (sw_u (sw_u (sw_u (sw_u σ 0 0 d) 0 1 v) 0 2 a) 0 3 0) 1 401 v) = σ' ∧ r = none) := by
  refine sw_con (by decide) (Nat.le_of_ble_eq_true rfl) ?_
  refine sw_blk k_X3_renew 15 25 [(0, .inr (.inr 0)), (1, .inl d), (2, .inl v), (3, .inl a)] [.inl v, .inr (.inr 1)] (sw_u (sw_u (sw_u (sw_u σ 0 0 d) 0 1 v) 0 2 a) 0 3 0) rfl ?_
  refine sw_callS k_X3_renew rfl cS_J7_fill_53178 ml_X3_32 ⟨by decide, by decide⟩ [.inr (.inr 1), .inl v] [] rfl rfl (Nat.le_of_ble_eq_true rfl) 28 rfl (sp_fill (sw_u (sw_u (sw_u (sw_u σ 0 0 d) 0 1 v) 0 2 a) 0 3 0) 1 401 v rfl (by decide)) (fun r1 σ2 hq3 => ?_)
  obtain ⟨rfl, rfl⟩ := hq3
  refine sw_blk k_X3_renew 0 28 [(0, .inr (.inr 0)), (1, .inl d), (2, .inl v), (3, .inl a)] [] (sw_fl (sw_u (sw_u (sw_u (sw_u σ 0 0 d) 0 1 v) 0 2 a) 0 3 0) 1 401 v) rfl ?_
  refine sw_vreturn k_X3_renew rfl rfl ?_
  exact ⟨rfl, rfl⟩
abbrev M_X0_init : sw_M := (yX0_init, cX0_init, 1, none, 1, 12)
set_option maxHeartbeats 4000000 in
set_option maxRecDepth 100000 in
theorem ci_X0_init (l : Launch) (D : va_G) (c3 : sw_C3) (h0 sz : Nat) : Met l yX0_init (sw_ws M_X0_init) ({ frames := 1, cells := 1, slots := 60, locals := 12 }) (sw_PcI D c3 [.ref h0] [(h0, .inr (0, [.null]))] sz) (sw_QcI D c3 (fun u : Nat → Nat => [(h0, .inr (0, [.ref (u 0)])), ((u 0), .inl (c3.1, 60, .inl fun _ => 0))]) (va_A [(h0, .inr (0, [.null]))] sz)) 1 60 (va_A [(h0, .inr (0, [.null]))] sz) := by
  refine Met.ofW (cc := cX0_init) (maxL := 1) (ret := none) (by decide) rfl ?_
  intro p e s m args below meth c s₁ B hml hv
  obtain ⟨rfl, hsz, hP, hK, hAO, hD0⟩ := hv
  have hx := B.exec
  have hb := B.bytes
  have hr := B.returns
  have hts0 := atoms_spec (ws := sw_ws M_X0_init) B.pre
  have hts : ∀ w ∈ sw_tb, w.before _ s = true := fun w hw => hts0 w (List.mem_cons_of_mem _ hw)
  have hown : s.vm.findClass RX0 = some m.cls := findClass_of_methodNamed B.named
  have hlocks := B.notSynchronized
  have hin : meth.name = "<init>" := (name_of_methodNamed B.named B.method).1
  subst hsz
  have hD := hD0.self (sz := s.heap.size)
  generalize hAe : va_A [(h0, .inr (0, [.null]))] s.heap.size = A at hD ⊢
  have hA : ∀ q : Nat, s.heap.size ≤ q → A q := fun q h => by rw [← hAe]; exact Or.inr h
  have hS : va_S A s.heap s.heap [] := va_S.rf
  have hP : va_P D sw_cl [(h0, .inr (0, [.null]))] s.heap := hP
  have hl := lv_entry ([.ref h0]) (n := 1) (Nat.le_of_ble_eq_true rfl)
  rw [lg_entry_eq]
  generalize (lg_sl ([.ref h0]) ++ List.replicate (1 - (lg_sl ([.ref h0])).length) Slot.unset).toArray = ls at hl ⊢
  have hl : lv_has ls 1 [(0, .ref h0)] := hl
  refine lv_aload_n hx hb (show decode cX0_init 0 = .ok (.aload_n 0, 1) by decide +kernel) rfl (lv_at hl 0 rfl) ?_
  refine W.objInit hx hb hown (hts _ (sw_in 195 (by decide +kernel) rfl)) (hts _ (sw_in 19 (by decide +kernel) rfl)) (hts _ sw_oI) rfl (by rw [hml]; exact hl.1) rfl (show decode cX0_init 1 = .ok (.invokespecial 3, 3) by decide +kernel) (Nat.le_of_ble_eq_true rfl) (Nat.le_of_ble_eq_true rfl) ?_
  refine W.eq (g2 := F0 m 4 ls []) rfl ?_
  refine lv_aload_n hx hb (show decode cX0_init 4 = .ok (.aload_n 0, 1) by decide +kernel) rfl (lv_at hl 0 rfl) ?_
  refine lv_bipush (v := 60) hx hb (show decode cX0_init 5 = .ok (.bipush 60, 2) by decide +kernel) (by decide) ?_
  refine sw_newi (N := 60) hx hb (hts _ sw_aI) hK hP hD hS hA (by decide) (by decide) (by decide) (Nat.le_of_ble_eq_true rfl) (Nat.le_of_ble_eq_true rfl) (show decode cX0_init 7 = .ok (.newarray .int, 2) by decide +kernel) (fun q1 H hP hD hS => ?_)
  have hP : va_P D sw_cl [(h0, .inr (0, [.null])), (q1, .inl (c3.1, 60, .inl fun _ => 0))] H := hP
  have hD : va_D A [(h0, .inr (0, [.null])), (q1, .inl (c3.1, 60, .inl fun _ => 0))] := hD
  refine va_putF (D := D) (ci := 0) (v := .ref q1) (ty := (.array .int)) (C := RX0) (T := TX0) (N := 1) hx hb hts (sw_clf 0 _ rfl).1 tyX0 tyX0_ok nmX0 hown hK hP hD hS 0 rfl rfl 0 (by decide) (hts _ (sw_in 196 (by decide +kernel) rfl)) (fun _ h9 => h9) rfl hin rfl (by decide +kernel) rfl rfl (Nat.le_of_ble_eq_true rfl) (show decode cX0_init 9 = .ok (.putfield 9, 3) by decide +kernel) (fun H locs hP hD hS => ?_)
  have hP : va_P D sw_cl [(h0, .inr (0, [.ref q1])), (q1, .inl (c3.1, 60, .inl fun _ => 0))] H := hP
  have hD : va_D A [(h0, .inr (0, [.ref q1])), (q1, .inl (c3.1, 60, .inl fun _ => 0))] := hD
  have hP9 := hP.sub (ws' := [(h0, .inr (0, [.ref q1])), (q1, .inl (c3.1, 60, .inl fun _ => 0))]) [0, 1] rfl
  have hD9 := hD.sub (ws' := [(h0, .inr (0, [.ref q1])), (q1, .inl (c3.1, 60, .inl fun _ => 0))]) [0, 1] (by decide) rfl
  refine W.widen (k := 1) (n := 60) (Nat.le_of_ble_eq_true rfl) (Nat.le_of_ble_eq_true rfl) ?_
  exact W.vret hx hb hr (fun t ht hW => ⟨⟨(fun i => [q1].getD i 0), rfl, trivial, by rw [ht]; exact hP9, va_K.moved hW.alike hK, hD9⟩, hS.F ht⟩) hS.2.2 (show decode cX0_init 12 = .ok (.return_, 1) by decide +kernel)
abbrev M_X4_init : sw_M := (yX4_init, cX4_init, 1, none, 1, 12)
set_option maxHeartbeats 4000000 in
set_option maxRecDepth 100000 in
theorem ci_X4_init (l : Launch) (D : va_G) (c3 : sw_C3) (h0 sz : Nat) : Met l yX4_init (sw_ws M_X4_init) ({ frames := 1, cells := 1, slots := 60, locals := 12 }) (sw_PcI D c3 [.ref h0] [(h0, .inr (4, [.null, .int 0, .int 0, .int 0]))] sz) (sw_QcI D c3 (fun u : Nat → Nat => [(h0, .inr (4, [.ref (u 0), .int 1, .int 0, .int 0])), ((u 0), .inl (c3.1, 60, .inl fun _ => 0))]) (va_A [(h0, .inr (4, [.null, .int 0, .int 0, .int 0]))] sz)) 1 60 (va_A [(h0, .inr (4, [.null, .int 0, .int 0, .int 0]))] sz) := by
  refine Met.ofW (cc := cX4_init) (maxL := 1) (ret := none) (by decide) rfl ?_
  intro p e s m args below meth c s₁ B hml hv
  obtain ⟨rfl, hsz, hP, hK, hAO, hD0⟩ := hv
  have hx := B.exec
  have hb := B.bytes
  have hr := B.returns
  have hts0 := atoms_spec (ws := sw_ws M_X4_init) B.pre
  have hts : ∀ w ∈ sw_tb, w.before _ s = true := fun w hw => hts0 w (List.mem_cons_of_mem _ hw)
  have hown : s.vm.findClass RX4 = some m.cls := findClass_of_methodNamed B.named
  have hlocks := B.notSynchronized
  have hin : meth.name = "<init>" := (name_of_methodNamed B.named B.method).1
  subst hsz
  have hD := hD0.self (sz := s.heap.size)
  generalize hAe : va_A [(h0, .inr (4, [.null, .int 0, .int 0, .int 0]))] s.heap.size = A at hD ⊢
  have hA : ∀ q : Nat, s.heap.size ≤ q → A q := fun q h => by rw [← hAe]; exact Or.inr h
  have hS : va_S A s.heap s.heap [] := va_S.rf
  have hP : va_P D sw_cl [(h0, .inr (4, [.null, .int 0, .int 0, .int 0]))] s.heap := hP
  have hl := lv_entry ([.ref h0]) (n := 1) (Nat.le_of_ble_eq_true rfl)
  rw [lg_entry_eq]
  generalize (lg_sl ([.ref h0]) ++ List.replicate (1 - (lg_sl ([.ref h0])).length) Slot.unset).toArray = ls at hl ⊢
  have hl : lv_has ls 1 [(0, .ref h0)] := hl
  refine lv_aload_n hx hb (show decode cX4_init 0 = .ok (.aload_n 0, 1) by decide +kernel) rfl (lv_at hl 0 rfl) ?_
  refine W.objInit hx hb hown (hts _ (sw_in 207 (by decide +kernel) rfl)) (hts _ (sw_in 19 (by decide +kernel) rfl)) (hts _ sw_oI) rfl (by rw [hml]; exact hl.1) rfl (show decode cX4_init 1 = .ok (.invokespecial 3, 3) by decide +kernel) (Nat.le_of_ble_eq_true rfl) (Nat.le_of_ble_eq_true rfl) ?_
  refine W.eq (g2 := F0 m 4 ls []) rfl ?_
  refine lv_aload_n hx hb (show decode cX4_init 4 = .ok (.aload_n 0, 1) by decide +kernel) rfl (lv_at hl 0 rfl) ?_
  refine lv_bipush (v := 60) hx hb (show decode cX4_init 5 = .ok (.bipush 60, 2) by decide +kernel) (by decide) ?_
  refine sw_newi (N := 60) hx hb (hts _ sw_aI) hK hP hD hS hA (by decide) (by decide) (by decide) (Nat.le_of_ble_eq_true rfl) (Nat.le_of_ble_eq_true rfl) (show decode cX4_init 7 = .ok (.newarray .int, 2) by decide +kernel) (fun q1 H hP hD hS => ?_)
  have hP : va_P D sw_cl [(h0, .inr (4, [.null, .int 0, .int 0, .int 0])), (q1, .inl (c3.1, 60, .inl fun _ => 0))] H := hP
  have hD : va_D A [(h0, .inr (4, [.null, .int 0, .int 0, .int 0])), (q1, .inl (c3.1, 60, .inl fun _ => 0))] := hD
  refine va_putF (D := D) (ci := 4) (v := .ref q1) (ty := (.array .int)) (C := RX4) (T := TX4) (N := 4) hx hb hts (sw_clf 4 _ rfl).1 tyX4 tyX4_ok nmX4 hown hK hP hD hS 0 rfl rfl 0 (by decide) (hts _ (sw_in 208 (by decide +kernel) rfl)) (fun _ h9 => h9) rfl hin rfl (by decide +kernel) rfl rfl (Nat.le_of_ble_eq_true rfl) (show decode cX4_init 9 = .ok (.putfield 9, 3) by decide +kernel) (fun H locs hP hD hS => ?_)
  have hP : va_P D sw_cl [(h0, .inr (4, [.ref q1, .int 0, .int 0, .int 0])), (q1, .inl (c3.1, 60, .inl fun _ => 0))] H := hP
  have hD : va_D A [(h0, .inr (4, [.ref q1, .int 0, .int 0, .int 0])), (q1, .inl (c3.1, 60, .inl fun _ => 0))] := hD
  refine lv_aload_n hx hb (show decode cX4_init 12 = .ok (.aload_n 0, 1) by decide +kernel) rfl (lv_at hl 0 rfl) ?_
  refine lv_iconst (v := 1) hx hb (show decode cX4_init 13 = .ok (.iconst 1, 1) by decide +kernel) (by decide) ?_
  refine va_put (D := D) (ci := 4) (v := .int 1) (ty := .boolean) (C := RX4) (T := TX4) (N := 4) hx hb hts (sw_clf 4 _ rfl).1 tyX4 tyX4_ok nmX4 hown hK hP hD hS 0 rfl rfl 1 (by decide) (hts _ (sw_in 210 (by decide +kernel) rfl)) (fun _ h9 => h9) rfl (by decide +kernel) rfl rfl (Nat.le_of_ble_eq_true rfl) (show decode cX4_init 14 = .ok (.putfield 15, 3) by decide +kernel) (fun H locs hP hD hS => ?_)
  have hP : va_P D sw_cl [(h0, .inr (4, [.ref q1, .int 1, .int 0, .int 0])), (q1, .inl (c3.1, 60, .inl fun _ => 0))] H := hP
  have hD : va_D A [(h0, .inr (4, [.ref q1, .int 1, .int 0, .int 0])), (q1, .inl (c3.1, 60, .inl fun _ => 0))] := hD
  have hP9 := hP.sub (ws' := [(h0, .inr (4, [.ref q1, .int 1, .int 0, .int 0])), (q1, .inl (c3.1, 60, .inl fun _ => 0))]) [0, 1] rfl
  have hD9 := hD.sub (ws' := [(h0, .inr (4, [.ref q1, .int 1, .int 0, .int 0])), (q1, .inl (c3.1, 60, .inl fun _ => 0))]) [0, 1] (by decide) rfl
  refine W.widen (k := 1) (n := 60) (Nat.le_of_ble_eq_true rfl) (Nat.le_of_ble_eq_true rfl) ?_
  exact W.vret hx hb hr (fun t ht hW => ⟨⟨(fun i => [q1].getD i 0), rfl, trivial, by rw [ht]; exact hP9, va_K.moved hW.alike hK, hD9⟩, hS.F ht⟩) hS.2.2 (show decode cX4_init 17 = .ok (.return_, 1) by decide +kernel)
abbrev M_X5_init : sw_M := (yX5_init, cX5_init, 1, none, 1, 12)
set_option maxHeartbeats 4000000 in
set_option maxRecDepth 100000 in
theorem ci_X5_init (l : Launch) (D : va_G) (c3 : sw_C3) (h0 sz : Nat) : Met l yX5_init (sw_ws M_X5_init) ({ frames := 1, cells := 1, slots := 120, locals := 12 }) (sw_PcI D c3 [.ref h0] [(h0, .inr (5, [.null, .int 0]))] sz) (sw_QcI D c3 (fun u : Nat → Nat => [(h0, .inr (5, [.ref (u 0), .int 0])), ((u 0), .inl (c3.1, 120, .inl fun _ => 0))]) (va_A [(h0, .inr (5, [.null, .int 0]))] sz)) 1 120 (va_A [(h0, .inr (5, [.null, .int 0]))] sz) := by
  refine Met.ofW (cc := cX5_init) (maxL := 1) (ret := none) (by decide) rfl ?_
  intro p e s m args below meth c s₁ B hml hv
  obtain ⟨rfl, hsz, hP, hK, hAO, hD0⟩ := hv
  have hx := B.exec
  have hb := B.bytes
  have hr := B.returns
  have hts0 := atoms_spec (ws := sw_ws M_X5_init) B.pre
  have hts : ∀ w ∈ sw_tb, w.before _ s = true := fun w hw => hts0 w (List.mem_cons_of_mem _ hw)
  have hown : s.vm.findClass RX5 = some m.cls := findClass_of_methodNamed B.named
  have hlocks := B.notSynchronized
  have hin : meth.name = "<init>" := (name_of_methodNamed B.named B.method).1
  subst hsz
  have hD := hD0.self (sz := s.heap.size)
  generalize hAe : va_A [(h0, .inr (5, [.null, .int 0]))] s.heap.size = A at hD ⊢
  have hA : ∀ q : Nat, s.heap.size ≤ q → A q := fun q h => by rw [← hAe]; exact Or.inr h
  have hS : va_S A s.heap s.heap [] := va_S.rf
  have hP : va_P D sw_cl [(h0, .inr (5, [.null, .int 0]))] s.heap := hP
  have hl := lv_entry ([.ref h0]) (n := 1) (Nat.le_of_ble_eq_true rfl)
  rw [lg_entry_eq]
  generalize (lg_sl ([.ref h0]) ++ List.replicate (1 - (lg_sl ([.ref h0])).length) Slot.unset).toArray = ls at hl ⊢
  have hl : lv_has ls 1 [(0, .ref h0)] := hl
  refine lv_aload_n hx hb (show decode cX5_init 0 = .ok (.aload_n 0, 1) by decide +kernel) rfl (lv_at hl 0 rfl) ?_
  refine W.objInit hx hb hown (hts _ (sw_in 95 (by decide +kernel) rfl)) (hts _ (sw_in 19 (by decide +kernel) rfl)) (hts _ sw_oI) rfl (by rw [hml]; exact hl.1) rfl (show decode cX5_init 1 = .ok (.invokespecial 3, 3) by decide +kernel) (Nat.le_of_ble_eq_true rfl) (Nat.le_of_ble_eq_true rfl) ?_
  refine W.eq (g2 := F0 m 4 ls []) rfl ?_
  refine lv_aload_n hx hb (show decode cX5_init 4 = .ok (.aload_n 0, 1) by decide +kernel) rfl (lv_at hl 0 rfl) ?_
  refine lv_bipush (v := 120) hx hb (show decode cX5_init 5 = .ok (.bipush 120, 2) by decide +kernel) (by decide) ?_
  refine sw_newi (N := 120) hx hb (hts _ sw_aI) hK hP hD hS hA (by decide) (by decide) (by decide) (Nat.le_of_ble_eq_true rfl) (Nat.le_of_ble_eq_true rfl) (show decode cX5_init 7 = .ok (.newarray .int, 2) by decide +kernel) (fun q1 H hP hD hS => ?_)
  have hP : va_P D sw_cl [(h0, .inr (5, [.null, .int 0])), (q1, .inl (c3.1, 120, .inl fun _ => 0))] H := hP
  have hD : va_D A [(h0, .inr (5, [.null, .int 0])), (q1, .inl (c3.1, 120, .inl fun _ => 0))] := hD
  refine va_putF (D := D) (ci := 5) (v := .ref q1) (ty := (.array .int)) (C := RX5) (T := TX5) (N := 2) hx hb hts (sw_clf 5 _ rfl).1 tyX5 tyX5_ok nmX5 hown hK hP hD hS 0 rfl rfl 0 (by decide) (hts _ (sw_in 96 (by decide +kernel) rfl)) (fun _ h9 => h9) rfl hin rfl (by decide +kernel) rfl rfl (Nat.le_of_ble_eq_true rfl) (show decode cX5_init 9 = .ok (.putfield 9, 3) by decide +kernel) (fun H locs hP hD hS => ?_)
  have hP : va_P D sw_cl [(h0, .inr (5, [.ref q1, .int 0])), (q1, .inl (c3.1, 120, .inl fun _ => 0))] H := hP
  have hD : va_D A [(h0, .inr (5, [.ref q1, .int 0])), (q1, .inl (c3.1, 120, .inl fun _ => 0))] := hD
  have hP9 := hP.sub (ws' := [(h0, .inr (5, [.ref q1, .int 0])), (q1, .inl (c3.1, 120, .inl fun _ => 0))]) [0, 1] rfl
  have hD9 := hD.sub (ws' := [(h0, .inr (5, [.ref q1, .int 0])), (q1, .inl (c3.1, 120, .inl fun _ => 0))]) [0, 1] (by decide) rfl
  refine W.widen (k := 1) (n := 120) (Nat.le_of_ble_eq_true rfl) (Nat.le_of_ble_eq_true rfl) ?_
  exact W.vret hx hb hr (fun t ht hW => ⟨⟨(fun i => [q1].getD i 0), rfl, trivial, by rw [ht]; exact hP9, va_K.moved hW.alike hK, hD9⟩, hS.F ht⟩) hS.2.2 (show decode cX5_init 12 = .ok (.return_, 1) by decide +kernel)
abbrev M_X2_init : sw_M := (yX2_init, cX2_init, 2, none, 1, 12)
set_option maxHeartbeats 4000000 in
set_option maxRecDepth 100000 in
theorem ci_X2_init (l : Launch) (D : va_G) (c3 : sw_C3) (h0 sh sz : Nat) : Met l yX2_init (sw_ws M_X2_init) ({ frames := 1, cells := 0, slots := 0, locals := 12 }) (sw_PcI D c3 [.ref h0, .ref sh] [(h0, .inr (2, [.null, .int 0, .int 0, .int 0, .int 0]))] sz) (sw_QcI D c3 (fun u : Nat → Nat => [(h0, .inr (2, [.ref sh, .int 0, .int 0, .int 0, .int 400]))]) (va_A [(h0, .inr (2, [.null, .int 0, .int 0, .int 0, .int 0]))] sz)) 0 0 (va_A [(h0, .inr (2, [.null, .int 0, .int 0, .int 0, .int 0]))] sz) := by
  refine Met.ofW (cc := cX2_init) (maxL := 2) (ret := none) (by decide) rfl ?_
  intro p e s m args below meth c s₁ B hml hv
  obtain ⟨rfl, hsz, hP, hK, hAO, hD0⟩ := hv
  have hx := B.exec
  have hb := B.bytes
  have hr := B.returns
  have hts0 := atoms_spec (ws := sw_ws M_X2_init) B.pre
  have hts : ∀ w ∈ sw_tb, w.before _ s = true := fun w hw => hts0 w (List.mem_cons_of_mem _ hw)
  have hown : s.vm.findClass RX2 = some m.cls := findClass_of_methodNamed B.named
  have hlocks := B.notSynchronized
  have hin : meth.name = "<init>" := (name_of_methodNamed B.named B.method).1
  subst hsz
  have hD := hD0.self (sz := s.heap.size)
  generalize hAe : va_A [(h0, .inr (2, [.null, .int 0, .int 0, .int 0, .int 0]))] s.heap.size = A at hD ⊢
  have hA : ∀ q : Nat, s.heap.size ≤ q → A q := fun q h => by rw [← hAe]; exact Or.inr h
  have hS : va_S A s.heap s.heap [] := va_S.rf
  have hP : va_P D sw_cl [(h0, .inr (2, [.null, .int 0, .int 0, .int 0, .int 0]))] s.heap := hP
  have hl := lv_entry ([.ref h0, .ref sh]) (n := 2) (Nat.le_of_ble_eq_true rfl)
  rw [lg_entry_eq]
  generalize (lg_sl ([.ref h0, .ref sh]) ++ List.replicate (2 - (lg_sl ([.ref h0, .ref sh])).length) Slot.unset).toArray = ls at hl ⊢
  have hl : lv_has ls 2 [(0, .ref h0), (1, .ref sh)] := hl
  refine lv_aload_n hx hb (show decode cX2_init 0 = .ok (.aload_n 0, 1) by decide +kernel) rfl (lv_at hl 0 rfl) ?_
  refine W.objInit hx hb hown (hts _ (sw_in 169 (by decide +kernel) rfl)) (hts _ (sw_in 19 (by decide +kernel) rfl)) (hts _ sw_oI) rfl (by rw [hml]; exact hl.1) rfl (show decode cX2_init 1 = .ok (.invokespecial 3, 3) by decide +kernel) (Nat.le_of_ble_eq_true rfl) (Nat.le_of_ble_eq_true rfl) ?_
  refine W.eq (g2 := F0 m 4 ls []) rfl ?_
  refine lv_aload_n hx hb (show decode cX2_init 4 = .ok (.aload_n 0, 1) by decide +kernel) rfl (lv_at hl 0 rfl) ?_
  refine lv_aload_n hx hb (show decode cX2_init 5 = .ok (.aload_n 1, 1) by decide +kernel) rfl (lv_at hl 1 rfl) ?_
  refine va_putF (D := D) (ci := 2) (v := .ref sh) (ty := (.object "ShaftWinder$Shaft")) (C := RX2) (T := TX2) (N := 5) hx hb hts (sw_clf 2 _ rfl).1 tyX2 tyX2_ok nmX2 hown hK hP hD hS 0 rfl rfl 0 (by decide) (hts _ (sw_in 170 (by decide +kernel) rfl)) (fun _ h9 => h9) rfl hin rfl (by decide +kernel) rfl rfl (Nat.le_of_ble_eq_true rfl) (show decode cX2_init 6 = .ok (.putfield 9, 3) by decide +kernel) (fun H locs hP hD hS => ?_)
  have hP : va_P D sw_cl [(h0, .inr (2, [.ref sh, .int 0, .int 0, .int 0, .int 0]))] H := hP
  have hD : va_D A [(h0, .inr (2, [.ref sh, .int 0, .int 0, .int 0, .int 0]))] := hD
  refine lv_aload_n hx hb (show decode cX2_init 9 = .ok (.aload_n 0, 1) by decide +kernel) rfl (lv_at hl 0 rfl) ?_
  refine lv_sipush (v := 400) hx hb (show decode cX2_init 10 = .ok (.sipush 400, 3) by decide +kernel) (by decide) ?_
  refine va_put (D := D) (ci := 2) (v := .int 400) (ty := .int) (C := RX2) (T := TX2) (N := 5) hx hb hts (sw_clf 2 _ rfl).1 tyX2 tyX2_ok nmX2 hown hK hP hD hS 0 rfl rfl 4 (by decide) (hts _ (sw_in 177 (by decide +kernel) rfl)) (fun _ h9 => h9) rfl (by decide +kernel) rfl rfl (Nat.le_of_ble_eq_true rfl) (show decode cX2_init 13 = .ok (.putfield 15, 3) by decide +kernel) (fun H locs hP hD hS => ?_)
  have hP : va_P D sw_cl [(h0, .inr (2, [.ref sh, .int 0, .int 0, .int 0, .int 400]))] H := hP
  have hD : va_D A [(h0, .inr (2, [.ref sh, .int 0, .int 0, .int 0, .int 400]))] := hD
  have hP9 := hP.sub (ws' := [(h0, .inr (2, [.ref sh, .int 0, .int 0, .int 0, .int 400]))]) [0] rfl
  have hD9 := hD.sub (ws' := [(h0, .inr (2, [.ref sh, .int 0, .int 0, .int 0, .int 400]))]) [0] (by decide) rfl
  refine W.widen (k := 0) (n := 0) (Nat.le_of_ble_eq_true rfl) (Nat.le_of_ble_eq_true rfl) ?_
  exact W.vret hx hb hr (fun t ht hW => ⟨⟨(fun i => [].getD i 0), rfl, trivial, by rw [ht]; exact hP9, va_K.moved hW.alike hK, hD9⟩, hS.F ht⟩) hS.2.2 (show decode cX2_init 16 = .ok (.return_, 1) by decide +kernel)
abbrev M_X3_init : sw_M := (yX3_init, cX3_init, 1, none, 2, 46)
set_option maxHeartbeats 4000000 in
set_option maxRecDepth 100000 in
theorem ci_X3_init (l : Launch) (D : va_G) (c3 : sw_C3) (h0 sz : Nat) : Met l yX3_init (sw_ws M_X3_init) ({ frames := 2, cells := 1, slots := 401, locals := 46 }) (sw_PcI D c3 [.ref h0] [(h0, .inr (3, [.int 0, .int 0, .int 0, .int 0, .null]))] sz) (sw_QcI D c3 (fun u : Nat → Nat => [(h0, .inr (3, [.int 100, .int 10, .int 2, .int 0, .ref (u 0)])), ((u 0), .inl (c3.1, 401, .inl sw_l10))]) (va_A [(h0, .inr (3, [.int 0, .int 0, .int 0, .int 0, .null]))] sz)) 1 401 (va_A [(h0, .inr (3, [.int 0, .int 0, .int 0, .int 0, .null]))] sz) := by
  refine Met.ofW (cc := cX3_init) (maxL := 1) (ret := none) (by decide) rfl ?_
  intro p e s m args below meth c s₁ B hml hv
  obtain ⟨rfl, hsz, hP, hK, hAO, hD0⟩ := hv
  have hx := B.exec
  have hb := B.bytes
  have hr := B.returns
  have hts0 := atoms_spec (ws := sw_ws M_X3_init) B.pre
  have hts : ∀ w ∈ sw_tb, w.before _ s = true := fun w hw => hts0 w (List.mem_cons_of_mem _ hw)
  have hown : s.vm.findClass RX3 = some m.cls := findClass_of_methodNamed B.named
  have hlocks := B.notSynchronized
  have hin : meth.name = "<init>" := (name_of_methodNamed B.named B.method).1
  subst hsz
  have hD := hD0.self (sz := s.heap.size)
  generalize hAe : va_A [(h0, .inr (3, [.int 0, .int 0, .int 0, .int 0, .null]))] s.heap.size = A at hD ⊢
  have hA : ∀ q : Nat, s.heap.size ≤ q → A q := fun q h => by rw [← hAe]; exact Or.inr h
  have hS : va_S A s.heap s.heap [] := va_S.rf
  have hP : va_P D sw_cl [(h0, .inr (3, [.int 0, .int 0, .int 0, .int 0, .null]))] s.heap := hP
  have hl := lv_entry ([.ref h0]) (n := 1) (Nat.le_of_ble_eq_true rfl)
  rw [lg_entry_eq]
  generalize (lg_sl ([.ref h0]) ++ List.replicate (1 - (lg_sl ([.ref h0])).length) Slot.unset).toArray = ls at hl ⊢
  have hl : lv_has ls 1 [(0, .ref h0)] := hl
  refine lv_aload_n hx hb (show decode cX3_init 0 = .ok (.aload_n 0, 1) by decide +kernel) rfl (lv_at hl 0 rfl) ?_
  refine W.objInit hx hb hown (hts _ (sw_in 26 (by decide +kernel) rfl)) (hts _ (sw_in 19 (by decide +kernel) rfl)) (hts _ sw_oI) rfl (by rw [hml]; exact hl.1) rfl (show decode cX3_init 1 = .ok (.invokespecial 3, 3) by decide +kernel) (Nat.le_of_ble_eq_true rfl) (Nat.le_of_ble_eq_true rfl) ?_
  refine W.eq (g2 := F0 m 4 ls []) rfl ?_
  refine lv_aload_n hx hb (show decode cX3_init 4 = .ok (.aload_n 0, 1) by decide +kernel) rfl (lv_at hl 0 rfl) ?_
  refine lv_sipush (v := 401) hx hb (show decode cX3_init 5 = .ok (.sipush 401, 3) by decide +kernel) (by decide) ?_
  refine sw_newi (N := 401) hx hb (hts _ sw_aI) hK hP hD hS hA (by decide) (by decide) (by decide) (Nat.le_of_ble_eq_true rfl) (Nat.le_of_ble_eq_true rfl) (show decode cX3_init 8 = .ok (.newarray .int, 2) by decide +kernel) (fun q1 H hP hD hS => ?_)
  have hP : va_P D sw_cl [(h0, .inr (3, [.int 0, .int 0, .int 0, .int 0, .null])), (q1, .inl (c3.1, 401, .inl fun _ => 0))] H := hP
  have hD : va_D A [(h0, .inr (3, [.int 0, .int 0, .int 0, .int 0, .null])), (q1, .inl (c3.1, 401, .inl fun _ => 0))] := hD
  refine va_putF (D := D) (ci := 3) (v := .ref q1) (ty := (.array .int)) (C := RX3) (T := TX3) (N := 5) hx hb hts (sw_clf 3 _ rfl).1 tyX3 tyX3_ok nmX3 hown hK hP hD hS 0 rfl rfl 4 (by decide) (hts _ (sw_in 45 (by decide +kernel) rfl)) (fun _ h9 => h9) rfl hin rfl (by decide +kernel) rfl rfl (Nat.le_of_ble_eq_true rfl) (show decode cX3_init 10 = .ok (.putfield 9, 3) by decide +kernel) (fun H locs hP hD hS => ?_)
  have hP : va_P D sw_cl [(h0, .inr (3, [.int 0, .int 0, .int 0, .int 0, .ref q1])), (q1, .inl (c3.1, 401, .inl fun _ => 0))] H := hP
  have hD : va_D A [(h0, .inr (3, [.int 0, .int 0, .int 0, .int 0, .ref q1])), (q1, .inl (c3.1, 401, .inl fun _ => 0))] := hD
  refine lv_aload_n hx hb (show decode cX3_init 13 = .ok (.aload_n 0, 1) by decide +kernel) rfl (lv_at hl 0 rfl) ?_
  refine lv_bipush (v := 100) hx hb (show decode cX3_init 14 = .ok (.bipush 100, 2) by decide +kernel) (by decide) ?_
  refine lv_bipush (v := 10) hx hb (show decode cX3_init 16 = .ok (.bipush 10, 2) by decide +kernel) (by decide) ?_
  refine lv_iconst (v := 2) hx hb (show decode cX3_init 18 = .ok (.iconst 2, 1) by decide +kernel) (by decide) ?_
  have hadS : sw_inj (fun i : Nat => if i = 0 then h0 else q1) sw_lyS.length := by
    intro i j hi hj hij
    have hi : i < 2 := hi
    have hj : j < 2 := hj
    have hne : h0 ≠ q1 := fun z => absurd (hD.1 0 1 _ _ rfl rfl z) (by decide)
    rcases (by omega : i = 0 ∨ i = 1) with rfl | rfl <;> rcases (by omega : j = 0 ∨ j = 1) with rfl | rfl
    · rfl
    · exact absurd hij hne
    · exact absurd hij.symm hne
    · rfl
  refine sw_callW (D := D) (c3 := c3) (ly := sw_lyS) (ρ := sw_rhoS) (σ := fun _ _ => 0) (ad := fun i : Nat => if i = 0 then h0 else q1) (o := 0) (ci := 3) (kn := 0) hx hb hml hown hts hK cV_X3_renew (sw_in 27 (by decide +kernel) rfl) ⟨by decide, by decide⟩ rfl rfl [.inl 100, .inl 10, .inl 2] [] rfl (by decide) hadS (sp_renewS (fun _ _ => 0) 100 10 2) hP hS (fun i hi => ?_) hA hl.1 (show decode cX3_init 19 = .ok (.invokevirtual 15, 3) by decide +kernel) ⟨(Nat.le_of_ble_eq_true rfl), (Nat.le_of_ble_eq_true rfl)⟩ (fun r σ' H locs hq hP hS => ?_)
  · have hi : i < 2 := hi
    rcases (by omega : i = 0 ∨ i = 1) with rfl | rfl
    · exact hD.2 0 _ rfl
    · exact hD.2 1 _ rfl
  obtain ⟨rfl, rfl⟩ := hq
  have hD : va_D A [(h0, .inr (3, [.int 100, .int 10, .int 2, .int 0, .ref q1])), (q1, .inl (c3.1, 401, .inl sw_l10))] := ⟨fun i j x y hx hy hxy => by
    rcases i with _ | _ | i <;> rcases j with _ | _ | j <;> simp at hx hy
    · rfl
    · exact absurd (hadS 0 1 (by decide) (by decide) (by rw [← hx, ← hy] at hxy; exact hxy)) (by decide)
    · exact absurd (hadS 1 0 (by decide) (by decide) (by rw [← hx, ← hy] at hxy; exact hxy)) (by decide)
    · rfl, fun k x hx => by
    rcases k with _ | _ | k <;> simp at hx
    · rw [← hx]; show A h0; exact hD.2 0 _ rfl
    · rw [← hx]; show A q1; exact hD.2 1 _ rfl⟩
  have el : (fun j : Nat => Int32.ofInt (sw_fl (sw_u (sw_u (sw_u (sw_u (fun _ _ => 0) 0 0 100) 0 1 10) 0 2 2) 0 3 0) 1 401 10 1 j)) = sw_l10 := funext fun j => by
    unfold sw_l10
    congr 1
    show (if 1 = 1 ∧ j < 401 then (10 : Int) else 0) = _
    by_cases z : j < 401
    · rw [if_pos ⟨rfl, z⟩, if_pos z]
    · rw [if_neg (fun y => z y.2), if_neg z]
  have hP : va_P D sw_cl [(h0, .inr (3, [.int 100, .int 10, .int 2, .int 0, .ref q1])), (q1, .inl (c3.1, 401, .inl (fun j : Nat => Int32.ofInt (sw_fl (sw_u (sw_u (sw_u (sw_u (fun _ _ => 0) 0 0 100) 0 1 10) 0 2 2) 0 3 0) 1 401 10 1 j))))] H := hP
  rw [el] at hP
  have hP9 := hP.sub (ws' := [(h0, .inr (3, [.int 100, .int 10, .int 2, .int 0, .ref q1])), (q1, .inl (c3.1, 401, .inl sw_l10))]) [0, 1] rfl
  have hD9 := hD.sub (ws' := [(h0, .inr (3, [.int 100, .int 10, .int 2, .int 0, .ref q1])), (q1, .inl (c3.1, 401, .inl sw_l10))]) [0, 1] (by decide) rfl
  refine W.widen (k := 1) (n := 401) (Nat.le_of_ble_eq_true rfl) (Nat.le_of_ble_eq_true rfl) ?_
  exact W.vret hx hb hr (fun t ht hW => ⟨⟨(fun i => [q1].getD i 0), rfl, trivial, by rw [ht]; exact hP9, va_K.moved hW.alike hK, hD9⟩, hS.F ht⟩) hS.2.2 (show decode cX3_init 22 = .ok (.return_, 1) by decide +kernel)
abbrev M_X1_init : sw_M := (yX1_init, cX1_init, 2, none, 1, 20)
set_option maxHeartbeats 4000000 in
set_option maxRecDepth 100000 in
theorem ci_X1_init (l : Launch) (D : va_G) (c3 : sw_C3) (h0 sh sz : Nat) : Met l yX1_init (sw_ws M_X1_init) ({ frames := 1, cells := 1, slots := 8421, locals := 20 }) (sw_PcI D c3 [.ref h0, .ref sh] [(h0, .inr (1, [.null, .null, .int 0, .int 0, .int 0]))] sz) (sw_QcI D c3 (fun u : Nat → Nat => [(h0, .inr (1, [.ref sh, .ref (u 0), .int (-1), .int 0, .int 0])), ((u 0), .inl (c3.1, 8421, .inl fun _ => 0))]) (va_A [(h0, .inr (1, [.null, .null, .int 0, .int 0, .int 0]))] sz)) 1 8421 (va_A [(h0, .inr (1, [.null, .null, .int 0, .int 0, .int 0]))] sz) := by
  refine Met.ofW (cc := cX1_init) (maxL := 2) (ret := none) (by decide) rfl ?_
  intro p e s m args below meth c s₁ B hml hv
  obtain ⟨rfl, hsz, hP, hK, hAO, hD0⟩ := hv
  have hx := B.exec
  have hb := B.bytes
  have hr := B.returns
  have hts0 := atoms_spec (ws := sw_ws M_X1_init) B.pre
  have hts : ∀ w ∈ sw_tb, w.before _ s = true := fun w hw => hts0 w (List.mem_cons_of_mem _ hw)
  have hown : s.vm.findClass RX1 = some m.cls := findClass_of_methodNamed B.named
  have hlocks := B.notSynchronized
  have hin : meth.name = "<init>" := (name_of_methodNamed B.named B.method).1
  subst hsz
  have hD := hD0.self (sz := s.heap.size)
  generalize hAe : va_A [(h0, .inr (1, [.null, .null, .int 0, .int 0, .int 0]))] s.heap.size = A at hD ⊢
  have hA : ∀ q : Nat, s.heap.size ≤ q → A q := fun q h => by rw [← hAe]; exact Or.inr h
  have hS : va_S A s.heap s.heap [] := va_S.rf
  have hP : va_P D sw_cl [(h0, .inr (1, [.null, .null, .int 0, .int 0, .int 0]))] s.heap := hP
  have hl := lv_entry ([.ref h0, .ref sh]) (n := 2) (Nat.le_of_ble_eq_true rfl)
  rw [lg_entry_eq]
  generalize (lg_sl ([.ref h0, .ref sh]) ++ List.replicate (2 - (lg_sl ([.ref h0, .ref sh])).length) Slot.unset).toArray = ls at hl ⊢
  have hl : lv_has ls 2 [(0, .ref h0), (1, .ref sh)] := hl
  refine lv_aload_n hx hb (show decode cX1_init 0 = .ok (.aload_n 0, 1) by decide +kernel) rfl (lv_at hl 0 rfl) ?_
  refine W.objInit hx hb hown (hts _ (sw_in 63 (by decide +kernel) rfl)) (hts _ (sw_in 19 (by decide +kernel) rfl)) (hts _ sw_oI) rfl (by rw [hml]; exact hl.1) rfl (show decode cX1_init 1 = .ok (.invokespecial 3, 3) by decide +kernel) (Nat.le_of_ble_eq_true rfl) (Nat.le_of_ble_eq_true rfl) ?_
  refine W.eq (g2 := F0 m 4 ls []) rfl ?_
  refine lv_aload_n hx hb (show decode cX1_init 4 = .ok (.aload_n 0, 1) by decide +kernel) rfl (lv_at hl 0 rfl) ?_
  refine lv_aload_n hx hb (show decode cX1_init 5 = .ok (.aload_n 1, 1) by decide +kernel) rfl (lv_at hl 1 rfl) ?_
  refine va_putF (D := D) (ci := 1) (v := .ref sh) (ty := (.object "ShaftWinder$Shaft")) (C := RX1) (T := TX1) (N := 5) hx hb hts (sw_clf 1 _ rfl).1 tyX1 tyX1_ok nmX1 hown hK hP hD hS 0 rfl rfl 0 (by decide) (hts _ (sw_in 68 (by decide +kernel) rfl)) (fun _ h9 => h9) rfl hin rfl (by decide +kernel) rfl rfl (Nat.le_of_ble_eq_true rfl) (show decode cX1_init 6 = .ok (.putfield 9, 3) by decide +kernel) (fun H locs hP hD hS => ?_)
  have hP : va_P D sw_cl [(h0, .inr (1, [.ref sh, .null, .int 0, .int 0, .int 0]))] H := hP
  have hD : va_D A [(h0, .inr (1, [.ref sh, .null, .int 0, .int 0, .int 0]))] := hD
  refine lv_aload_n hx hb (show decode cX1_init 9 = .ok (.aload_n 0, 1) by decide +kernel) rfl (lv_at hl 0 rfl) ?_
  refine lv_sipush (v := 8421) hx hb (show decode cX1_init 10 = .ok (.sipush 8421, 3) by decide +kernel) (by decide) ?_
  refine sw_newi (N := 8421) hx hb (hts _ sw_aI) hK hP hD hS hA (by decide) (by decide) (by decide) (Nat.le_of_ble_eq_true rfl) (Nat.le_of_ble_eq_true rfl) (show decode cX1_init 13 = .ok (.newarray .int, 2) by decide +kernel) (fun q1 H hP hD hS => ?_)
  have hP : va_P D sw_cl [(h0, .inr (1, [.ref sh, .null, .int 0, .int 0, .int 0])), (q1, .inl (c3.1, 8421, .inl fun _ => 0))] H := hP
  have hD : va_D A [(h0, .inr (1, [.ref sh, .null, .int 0, .int 0, .int 0])), (q1, .inl (c3.1, 8421, .inl fun _ => 0))] := hD
  refine va_putF (D := D) (ci := 1) (v := .ref q1) (ty := (.array .int)) (C := RX1) (T := TX1) (N := 5) hx hb hts (sw_clf 1 _ rfl).1 tyX1 tyX1_ok nmX1 hown hK hP hD hS 0 rfl rfl 1 (by decide) (hts _ (sw_in 69 (by decide +kernel) rfl)) (fun _ h9 => h9) rfl hin rfl (by decide +kernel) rfl rfl (Nat.le_of_ble_eq_true rfl) (show decode cX1_init 15 = .ok (.putfield 15, 3) by decide +kernel) (fun H locs hP hD hS => ?_)
  have hP : va_P D sw_cl [(h0, .inr (1, [.ref sh, .ref q1, .int 0, .int 0, .int 0])), (q1, .inl (c3.1, 8421, .inl fun _ => 0))] H := hP
  have hD : va_D A [(h0, .inr (1, [.ref sh, .ref q1, .int 0, .int 0, .int 0])), (q1, .inl (c3.1, 8421, .inl fun _ => 0))] := hD
  refine lv_aload_n hx hb (show decode cX1_init 18 = .ok (.aload_n 0, 1) by decide +kernel) rfl (lv_at hl 0 rfl) ?_
  have hadS : sw_inj (fun i : Nat => if i = 0 then h0 else if i = 1 then q1 else sh) sw_lyF.length := by
    intro i j hi hj hij
    have hi : i < 2 := hi
    have hj : j < 2 := hj
    have hne : h0 ≠ q1 := fun z => absurd (hD.1 0 1 _ _ rfl rfl z) (by decide)
    rcases (by omega : i = 0 ∨ i = 1) with rfl | rfl <;> rcases (by omega : j = 0 ∨ j = 1) with rfl | rfl
    · rfl
    · exact absurd hij hne
    · exact absurd hij.symm hne
    · rfl
  refine sw_callW (D := D) (c3 := c3) (ly := sw_lyF) (ρ := sw_rhoF) (σ := fun _ _ => 0) (ad := fun i : Nat => if i = 0 then h0 else if i = 1 then q1 else sh) (o := 0) (ci := 1) (kn := 0) hx hb hml hown hts hK cV_X1_forget (sw_in 64 (by decide +kernel) rfl) ⟨by decide, by decide⟩ rfl rfl [] [] rfl (by decide) hadS (sp_forgetF (fun _ _ => 0)) hP hS (fun i hi => ?_) hA hl.1 (show decode cX1_init 19 = .ok (.invokevirtual 19, 3) by decide +kernel) ⟨(Nat.le_of_ble_eq_true rfl), (Nat.le_of_ble_eq_true rfl)⟩ (fun r σ' H locs hq hP hS => ?_)
  · have hi : i < 2 := hi
    rcases (by omega : i = 0 ∨ i = 1) with rfl | rfl
    · exact hD.2 0 _ rfl
    · exact hD.2 1 _ rfl
  obtain ⟨rfl, rfl⟩ := hq
  have hD : va_D A [(h0, .inr (1, [.ref sh, .ref q1, .int (-1), .int 0, .int 0])), (q1, .inl (c3.1, 8421, .inl fun _ => 0))] := ⟨fun i j x y hx hy hxy => by
    rcases i with _ | _ | i <;> rcases j with _ | _ | j <;> simp at hx hy
    · rfl
    · exact absurd (hadS 0 1 (by decide) (by decide) (by rw [← hx, ← hy] at hxy; exact hxy)) (by decide)
    · exact absurd (hadS 1 0 (by decide) (by decide) (by rw [← hx, ← hy] at hxy; exact hxy)) (by decide)
    · rfl, fun k x hx => by
    rcases k with _ | _ | k <;> simp at hx
    · rw [← hx]; show A h0; exact hD.2 0 _ rfl
    · rw [← hx]; show A q1; exact hD.2 1 _ rfl⟩
  have hP : va_P D sw_cl [(h0, .inr (1, [.ref sh, .ref q1, .int (-1), .int 0, .int 0])), (q1, .inl (c3.1, 8421, .inl fun _ => 0))] H := hP
  have hP9 := hP.sub (ws' := [(h0, .inr (1, [.ref sh, .ref q1, .int (-1), .int 0, .int 0])), (q1, .inl (c3.1, 8421, .inl fun _ => 0))]) [0, 1] rfl
  have hD9 := hD.sub (ws' := [(h0, .inr (1, [.ref sh, .ref q1, .int (-1), .int 0, .int 0])), (q1, .inl (c3.1, 8421, .inl fun _ => 0))]) [0, 1] (by decide) rfl
  refine W.widen (k := 1) (n := 8421) (Nat.le_of_ble_eq_true rfl) (Nat.le_of_ble_eq_true rfl) ?_
  exact W.vret hx hb hr (fun t ht hW => ⟨⟨(fun i => [q1].getD i 0), rfl, trivial, by rw [ht]; exact hP9, va_K.moved hW.alike hK, hD9⟩, hS.F ht⟩) hS.2.2 (show decode cX1_init 22 = .ok (.return_, 1) by decide +kernel)
abbrev M_X6_init : sw_M := (yX6_init, cX6_init, 2, none, 2, 32)
set_option maxHeartbeats 4000000 in
set_option maxRecDepth 100000 in
theorem ci_X6_init (l : Launch) (D : va_G) (c3 : sw_C3) (h0 sh sz : Nat) : Met l yX6_init (sw_ws M_X6_init) ({ frames := 2, cells := 5, slots := 533, locals := 32 }) (sw_PcI D c3 [.ref h0, .ref sh] [(h0, .inr (6, [.null, .null, .null, .null, .null, .int 0, .int 0, .int 0, .int 0, .int 0, .int 0, .int 0, .int 0, .int 0, .int 0]))] sz) (sw_QcI D c3 (fun u : Nat → Nat => [(h0, .inr (6, [.ref sh, .ref (u 0), .ref (u 2), .ref (u 3), .ref (u 4), .int 0, .int 0, .int 0, .int 0, .int 0, .int 0, .int 20, .int 3, .int 0, .int 0])), ((u 0), .inr (5, [.ref (u 1), .int 0])), ((u 1), .inl (c3.1, 120, .inl fun _ => 0)), ((u 2), .inl (c3.2.1, 8, .inl fun _ => 0)), ((u 3), .inl (c3.1, 3, .inl fun _ => 0)), ((u 4), .inl (c3.1, 400, .inl fun _ => 0))]) (va_A [(h0, .inr (6, [.null, .null, .null, .null, .null, .int 0, .int 0, .int 0, .int 0, .int 0, .int 0, .int 0, .int 0, .int 0, .int 0]))] sz)) 5 533 (va_A [(h0, .inr (6, [.null, .null, .null, .null, .null, .int 0, .int 0, .int 0, .int 0, .int 0, .int 0, .int 0, .int 0, .int 0, .int 0]))] sz) := by
  refine Met.ofW (cc := cX6_init) (maxL := 2) (ret := none) (by decide) rfl ?_
  intro p e s m args below meth c s₁ B hml hv
  obtain ⟨rfl, hsz, hP, hK, hAO, hD0⟩ := hv
  have hx := B.exec
  have hb := B.bytes
  have hr := B.returns
  have hts0 := atoms_spec (ws := sw_ws M_X6_init) B.pre
  have hts : ∀ w ∈ sw_tb, w.before _ s = true := fun w hw => hts0 w (List.mem_cons_of_mem _ hw)
  have hown : s.vm.findClass RX6 = some m.cls := findClass_of_methodNamed B.named
  have hlocks := B.notSynchronized
  have hin : meth.name = "<init>" := (name_of_methodNamed B.named B.method).1
  subst hsz
  have hD := hD0.self (sz := s.heap.size)
  generalize hAe : va_A [(h0, .inr (6, [.null, .null, .null, .null, .null, .int 0, .int 0, .int 0, .int 0, .int 0, .int 0, .int 0, .int 0, .int 0, .int 0]))] s.heap.size = A at hD ⊢
  have hA : ∀ q : Nat, s.heap.size ≤ q → A q := fun q h => by rw [← hAe]; exact Or.inr h
  have hS : va_S A s.heap s.heap [] := va_S.rf
  have hP : va_P D sw_cl [(h0, .inr (6, [.null, .null, .null, .null, .null, .int 0, .int 0, .int 0, .int 0, .int 0, .int 0, .int 0, .int 0, .int 0, .int 0]))] s.heap := hP
  have hl := lv_entry ([.ref h0, .ref sh]) (n := 2) (Nat.le_of_ble_eq_true rfl)
  rw [lg_entry_eq]
  generalize (lg_sl ([.ref h0, .ref sh]) ++ List.replicate (2 - (lg_sl ([.ref h0, .ref sh])).length) Slot.unset).toArray = ls at hl ⊢
  have hl : lv_has ls 2 [(0, .ref h0), (1, .ref sh)] := hl
  refine lv_aload_n hx hb (show decode cX6_init 0 = .ok (.aload_n 0, 1) by decide +kernel) rfl (lv_at hl 0 rfl) ?_
  refine W.objInit hx hb hown (hts _ (sw_in 89 (by decide +kernel) rfl)) (hts _ (sw_in 19 (by decide +kernel) rfl)) (hts _ sw_oI) rfl (by rw [hml]; exact hl.1) rfl (show decode cX6_init 1 = .ok (.invokespecial 3, 3) by decide +kernel) (Nat.le_of_ble_eq_true rfl) (Nat.le_of_ble_eq_true rfl) ?_
  refine W.eq (g2 := F0 m 4 ls []) rfl ?_
  refine lv_aload_n hx hb (show decode cX6_init 4 = .ok (.aload_n 0, 1) by decide +kernel) rfl (lv_at hl 0 rfl) ?_
  refine lv_aload_n hx hb (show decode cX6_init 5 = .ok (.aload_n 1, 1) by decide +kernel) rfl (lv_at hl 1 rfl) ?_
  refine va_putF (D := D) (ci := 6) (v := .ref sh) (ty := (.object "ShaftWinder$Shaft")) (C := RX6) (T := TX6) (N := 15) hx hb hts (sw_clf 6 _ rfl).1 tyX6 tyX6_ok nmX6 hown hK hP hD hS 0 rfl rfl 0 (by decide) (hts _ (sw_in 104 (by decide +kernel) rfl)) (fun _ h9 => h9) rfl hin rfl (by decide +kernel) rfl rfl (Nat.le_of_ble_eq_true rfl) (show decode cX6_init 6 = .ok (.putfield 9, 3) by decide +kernel) (fun H locs hP hD hS => ?_)
  have hP : va_P D sw_cl [(h0, .inr (6, [.ref sh, .null, .null, .null, .null, .int 0, .int 0, .int 0, .int 0, .int 0, .int 0, .int 0, .int 0, .int 0, .int 0]))] H := hP
  have hD : va_D A [(h0, .inr (6, [.ref sh, .null, .null, .null, .null, .int 0, .int 0, .int 0, .int 0, .int 0, .int 0, .int 0, .int 0, .int 0, .int 0]))] := hD
  refine lv_aload_n hx hb (show decode cX6_init 9 = .ok (.aload_n 0, 1) by decide +kernel) rfl (lv_at hl 0 rfl) ?_
  refine va_new (ci := 5) (fs := [.null, .int 0]) (C := RX5) (T := TX5) (N := 2) hx hb hts (sw_clf 5 _ rfl).1 tyX5 tyX5_ok hown (hts _ (sw_in 90 (by decide +kernel) rfl)) (hts _ (sw_in 91 (by decide +kernel) rfl)) (hts _ (sw_in 6 (by decide +kernel) rfl)) hK hP hD hS hA rfl (fun j hj => by rcases (show j = 0 ∨ j = 1 by omega) with rfl | rfl <;> rfl) (Nat.le_of_ble_eq_true rfl) (Nat.le_of_ble_eq_true rfl) (show decode cX6_init 10 = .ok (.new 15, 3) by decide +kernel) (fun q1 H hP hD hS => ?_)
  have hP : va_P D sw_cl [(h0, .inr (6, [.ref sh, .null, .null, .null, .null, .int 0, .int 0, .int 0, .int 0, .int 0, .int 0, .int 0, .int 0, .int 0, .int 0])), (q1, .inr (5, [.null, .int 0]))] H := hP
  have hD : va_D A [(h0, .inr (6, [.ref sh, .null, .null, .null, .null, .int 0, .int 0, .int 0, .int 0, .int 0, .int 0, .int 0, .int 0, .int 0, .int 0])), (q1, .inr (5, [.null, .int 0]))] := hD
  refine lv_dup hx hb (show decode cX6_init 13 = .ok (.dup, 1) by decide +kernel) rfl ?_
  have hPc := hP.sub (ws' := [(q1, .inr (5, [.null, .int 0]))]) [1] rfl
  have hDc := hD.sub (ws' := [(q1, .inr (5, [.null, .int 0]))]) [1] (by decide) rfl
  have hFc := va_free (wc := [(q1, .inr (5, [.null, .int 0]))]) hD hS hA [1] rfl
  refine va_callv (va_runI (As := []) (rest := [.ref q1, .ref h0]) ⟨hx, hb, hml, hown, hts⟩ (ci_X5_init l D c3 q1  H.size) (cwI 0 hts (sw_good (M := M_X5_init) (sw_in 94 (by decide +kernel) rfl)) rfl rfl rfl (hts _ (sw_in 6 (by decide +kernel) rfl)) (hts _ (sw_in 92 (by decide +kernel) rfl)) (hts _ (sw_in 93 (by decide +kernel) rfl)) rfl (by decide +kernel) ⟨(Nat.le_of_ble_eq_true rfl), (Nat.le_of_ble_eq_true rfl)⟩) ⟨sw_blI, fun U hU hW => ⟨rfl, by rw [hU], by rw [hU]; exact hPc, va_K.moved hW.alike hK, va_AO.moved hW.alike hAO, hDc.weaken (fun _ _ _ _ => trivial)⟩⟩ rfl rfl hl.1 rfl (lv_room (Nat.le_of_ble_eq_true rfl)) (show decode cX6_init 14 = .ok (.invokespecial 17, 3) by decide +kernel) ⟨(Nat.le_of_ble_eq_true rfl), (Nat.le_of_ble_eq_true rfl)⟩) hS (fun q _ h => hFc q h) hFc (fun u2 t H1 locs ht hvm hw hB hz1 hk1 hS => ?_)
  obtain ⟨hP1, hK1, hD1⟩ := hB
  rw [ht] at hP1
  obtain ⟨hP, hD⟩ := va_join (wr := [(h0, .inr (6, [.ref sh, .null, .null, .null, .null, .int 0, .int 0, .int 0, .int 0, .int 0, .int 0, .int 0, .int 0, .int 0, .int 0]))]) (w1 := [(q1, .inr (5, [.ref (u2 0), .int 0])), ((u2 0), .inl (c3.1, 120, .inl fun _ => 0))]) hP hD [1] [0] rfl rfl (by decide) (by decide) hk1 hFc hP1 hD1
  generalize H1 = H at hP hS ⊢
  have hP : va_P D sw_cl [(h0, .inr (6, [.ref sh, .null, .null, .null, .null, .int 0, .int 0, .int 0, .int 0, .int 0, .int 0, .int 0, .int 0, .int 0, .int 0])), (q1, .inr (5, [.ref (u2 0), .int 0])), ((u2 0), .inl (c3.1, 120, .inl fun _ => 0))] H := hP
  have hD : va_D A [(h0, .inr (6, [.ref sh, .null, .null, .null, .null, .int 0, .int 0, .int 0, .int 0, .int 0, .int 0, .int 0, .int 0, .int 0, .int 0])), (q1, .inr (5, [.ref (u2 0), .int 0])), ((u2 0), .inl (c3.1, 120, .inl fun _ => 0))] := hD
  refine va_putF (D := D) (ci := 6) (v := .ref q1) (ty := (.object "ShaftWinder$TickLog")) (C := RX6) (T := TX6) (N := 15) hx hb hts (sw_clf 6 _ rfl).1 tyX6 tyX6_ok nmX6 hown hK hP hD hS 0 rfl rfl 1 (by decide) (hts _ (sw_in 105 (by decide +kernel) rfl)) (fun _ h9 => h9) rfl hin rfl (by decide +kernel) rfl rfl (Nat.le_of_ble_eq_true rfl) (show decode cX6_init 17 = .ok (.putfield 18, 3) by decide +kernel) (fun H locs hP hD hS => ?_)
  have hP : va_P D sw_cl [(h0, .inr (6, [.ref sh, .ref q1, .null, .null, .null, .int 0, .int 0, .int 0, .int 0, .int 0, .int 0, .int 0, .int 0, .int 0, .int 0])), (q1, .inr (5, [.ref (u2 0), .int 0])), ((u2 0), .inl (c3.1, 120, .inl fun _ => 0))] H := hP
  have hD : va_D A [(h0, .inr (6, [.ref sh, .ref q1, .null, .null, .null, .int 0, .int 0, .int 0, .int 0, .int 0, .int 0, .int 0, .int 0, .int 0, .int 0])), (q1, .inr (5, [.ref (u2 0), .int 0])), ((u2 0), .inl (c3.1, 120, .inl fun _ => 0))] := hD
  refine lv_aload_n hx hb (show decode cX6_init 20 = .ok (.aload_n 0, 1) by decide +kernel) rfl (lv_at hl 0 rfl) ?_
  refine lv_bipush (v := 8) hx hb (show decode cX6_init 21 = .ok (.bipush 8, 2) by decide +kernel) (by decide) ?_
  refine sw_newz (N := 8) hx hb (hts _ sw_aZ) hK hP hD hS hA (by decide) (by decide) (by decide) (Nat.le_of_ble_eq_true rfl) (Nat.le_of_ble_eq_true rfl) (show decode cX6_init 23 = .ok (.newarray .boolean, 2) by decide +kernel) (fun q3 H hP hD hS => ?_)
  have hP : va_P D sw_cl [(h0, .inr (6, [.ref sh, .ref q1, .null, .null, .null, .int 0, .int 0, .int 0, .int 0, .int 0, .int 0, .int 0, .int 0, .int 0, .int 0])), (q1, .inr (5, [.ref (u2 0), .int 0])), ((u2 0), .inl (c3.1, 120, .inl fun _ => 0)), (q3, .inl (c3.2.1, 8, .inl fun _ => 0))] H := hP
  have hD : va_D A [(h0, .inr (6, [.ref sh, .ref q1, .null, .null, .null, .int 0, .int 0, .int 0, .int 0, .int 0, .int 0, .int 0, .int 0, .int 0, .int 0])), (q1, .inr (5, [.ref (u2 0), .int 0])), ((u2 0), .inl (c3.1, 120, .inl fun _ => 0)), (q3, .inl (c3.2.1, 8, .inl fun _ => 0))] := hD
  refine va_putF (D := D) (ci := 6) (v := .ref q3) (ty := (.array .boolean)) (C := RX6) (T := TX6) (N := 15) hx hb hts (sw_clf 6 _ rfl).1 tyX6 tyX6_ok nmX6 hown hK hP hD hS 0 rfl rfl 2 (by decide) (hts _ (sw_in 107 (by decide +kernel) rfl)) (fun _ h9 => h9) rfl hin rfl (by decide +kernel) rfl rfl (Nat.le_of_ble_eq_true rfl) (show decode cX6_init 25 = .ok (.putfield 22, 3) by decide +kernel) (fun H locs hP hD hS => ?_)
  have hP : va_P D sw_cl [(h0, .inr (6, [.ref sh, .ref q1, .ref q3, .null, .null, .int 0, .int 0, .int 0, .int 0, .int 0, .int 0, .int 0, .int 0, .int 0, .int 0])), (q1, .inr (5, [.ref (u2 0), .int 0])), ((u2 0), .inl (c3.1, 120, .inl fun _ => 0)), (q3, .inl (c3.2.1, 8, .inl fun _ => 0))] H := hP
  have hD : va_D A [(h0, .inr (6, [.ref sh, .ref q1, .ref q3, .null, .null, .int 0, .int 0, .int 0, .int 0, .int 0, .int 0, .int 0, .int 0, .int 0, .int 0])), (q1, .inr (5, [.ref (u2 0), .int 0])), ((u2 0), .inl (c3.1, 120, .inl fun _ => 0)), (q3, .inl (c3.2.1, 8, .inl fun _ => 0))] := hD
  refine lv_aload_n hx hb (show decode cX6_init 28 = .ok (.aload_n 0, 1) by decide +kernel) rfl (lv_at hl 0 rfl) ?_
  refine lv_iconst (v := 3) hx hb (show decode cX6_init 29 = .ok (.iconst 3, 1) by decide +kernel) (by decide) ?_
  refine sw_newi (N := 3) hx hb (hts _ sw_aI) hK hP hD hS hA (by decide) (by decide) (by decide) (Nat.le_of_ble_eq_true rfl) (Nat.le_of_ble_eq_true rfl) (show decode cX6_init 30 = .ok (.newarray .int, 2) by decide +kernel) (fun q4 H hP hD hS => ?_)
  have hP : va_P D sw_cl [(h0, .inr (6, [.ref sh, .ref q1, .ref q3, .null, .null, .int 0, .int 0, .int 0, .int 0, .int 0, .int 0, .int 0, .int 0, .int 0, .int 0])), (q1, .inr (5, [.ref (u2 0), .int 0])), ((u2 0), .inl (c3.1, 120, .inl fun _ => 0)), (q3, .inl (c3.2.1, 8, .inl fun _ => 0)), (q4, .inl (c3.1, 3, .inl fun _ => 0))] H := hP
  have hD : va_D A [(h0, .inr (6, [.ref sh, .ref q1, .ref q3, .null, .null, .int 0, .int 0, .int 0, .int 0, .int 0, .int 0, .int 0, .int 0, .int 0, .int 0])), (q1, .inr (5, [.ref (u2 0), .int 0])), ((u2 0), .inl (c3.1, 120, .inl fun _ => 0)), (q3, .inl (c3.2.1, 8, .inl fun _ => 0)), (q4, .inl (c3.1, 3, .inl fun _ => 0))] := hD
  refine va_putF (D := D) (ci := 6) (v := .ref q4) (ty := (.array .int)) (C := RX6) (T := TX6) (N := 15) hx hb hts (sw_clf 6 _ rfl).1 tyX6 tyX6_ok nmX6 hown hK hP hD hS 0 rfl rfl 3 (by decide) (hts _ (sw_in 109 (by decide +kernel) rfl)) (fun _ h9 => h9) rfl hin rfl (by decide +kernel) rfl rfl (Nat.le_of_ble_eq_true rfl) (show decode cX6_init 32 = .ok (.putfield 26, 3) by decide +kernel) (fun H locs hP hD hS => ?_)
  have hP : va_P D sw_cl [(h0, .inr (6, [.ref sh, .ref q1, .ref q3, .ref q4, .null, .int 0, .int 0, .int 0, .int 0, .int 0, .int 0, .int 0, .int 0, .int 0, .int 0])), (q1, .inr (5, [.ref (u2 0), .int 0])), ((u2 0), .inl (c3.1, 120, .inl fun _ => 0)), (q3, .inl (c3.2.1, 8, .inl fun _ => 0)), (q4, .inl (c3.1, 3, .inl fun _ => 0))] H := hP
  have hD : va_D A [(h0, .inr (6, [.ref sh, .ref q1, .ref q3, .ref q4, .null, .int 0, .int 0, .int 0, .int 0, .int 0, .int 0, .int 0, .int 0, .int 0, .int 0])), (q1, .inr (5, [.ref (u2 0), .int 0])), ((u2 0), .inl (c3.1, 120, .inl fun _ => 0)), (q3, .inl (c3.2.1, 8, .inl fun _ => 0)), (q4, .inl (c3.1, 3, .inl fun _ => 0))] := hD
  refine lv_aload_n hx hb (show decode cX6_init 35 = .ok (.aload_n 0, 1) by decide +kernel) rfl (lv_at hl 0 rfl) ?_
  refine lv_sipush (v := 400) hx hb (show decode cX6_init 36 = .ok (.sipush 400, 3) by decide +kernel) (by decide) ?_
  refine sw_newi (N := 400) hx hb (hts _ sw_aI) hK hP hD hS hA (by decide) (by decide) (by decide) (Nat.le_of_ble_eq_true rfl) (Nat.le_of_ble_eq_true rfl) (show decode cX6_init 39 = .ok (.newarray .int, 2) by decide +kernel) (fun q5 H hP hD hS => ?_)
  have hP : va_P D sw_cl [(h0, .inr (6, [.ref sh, .ref q1, .ref q3, .ref q4, .null, .int 0, .int 0, .int 0, .int 0, .int 0, .int 0, .int 0, .int 0, .int 0, .int 0])), (q1, .inr (5, [.ref (u2 0), .int 0])), ((u2 0), .inl (c3.1, 120, .inl fun _ => 0)), (q3, .inl (c3.2.1, 8, .inl fun _ => 0)), (q4, .inl (c3.1, 3, .inl fun _ => 0)), (q5, .inl (c3.1, 400, .inl fun _ => 0))] H := hP
  have hD : va_D A [(h0, .inr (6, [.ref sh, .ref q1, .ref q3, .ref q4, .null, .int 0, .int 0, .int 0, .int 0, .int 0, .int 0, .int 0, .int 0, .int 0, .int 0])), (q1, .inr (5, [.ref (u2 0), .int 0])), ((u2 0), .inl (c3.1, 120, .inl fun _ => 0)), (q3, .inl (c3.2.1, 8, .inl fun _ => 0)), (q4, .inl (c3.1, 3, .inl fun _ => 0)), (q5, .inl (c3.1, 400, .inl fun _ => 0))] := hD
  refine va_putF (D := D) (ci := 6) (v := .ref q5) (ty := (.array .int)) (C := RX6) (T := TX6) (N := 15) hx hb hts (sw_clf 6 _ rfl).1 tyX6 tyX6_ok nmX6 hown hK hP hD hS 0 rfl rfl 4 (by decide) (hts _ (sw_in 111 (by decide +kernel) rfl)) (fun _ h9 => h9) rfl hin rfl (by decide +kernel) rfl rfl (Nat.le_of_ble_eq_true rfl) (show decode cX6_init 41 = .ok (.putfield 30, 3) by decide +kernel) (fun H locs hP hD hS => ?_)
  have hP : va_P D sw_cl [(h0, .inr (6, [.ref sh, .ref q1, .ref q3, .ref q4, .ref q5, .int 0, .int 0, .int 0, .int 0, .int 0, .int 0, .int 0, .int 0, .int 0, .int 0])), (q1, .inr (5, [.ref (u2 0), .int 0])), ((u2 0), .inl (c3.1, 120, .inl fun _ => 0)), (q3, .inl (c3.2.1, 8, .inl fun _ => 0)), (q4, .inl (c3.1, 3, .inl fun _ => 0)), (q5, .inl (c3.1, 400, .inl fun _ => 0))] H := hP
  have hD : va_D A [(h0, .inr (6, [.ref sh, .ref q1, .ref q3, .ref q4, .ref q5, .int 0, .int 0, .int 0, .int 0, .int 0, .int 0, .int 0, .int 0, .int 0, .int 0])), (q1, .inr (5, [.ref (u2 0), .int 0])), ((u2 0), .inl (c3.1, 120, .inl fun _ => 0)), (q3, .inl (c3.2.1, 8, .inl fun _ => 0)), (q4, .inl (c3.1, 3, .inl fun _ => 0)), (q5, .inl (c3.1, 400, .inl fun _ => 0))] := hD
  refine lv_aload_n hx hb (show decode cX6_init 44 = .ok (.aload_n 0, 1) by decide +kernel) rfl (lv_at hl 0 rfl) ?_
  refine lv_bipush (v := 20) hx hb (show decode cX6_init 45 = .ok (.bipush 20, 2) by decide +kernel) (by decide) ?_
  refine va_put (D := D) (ci := 6) (v := .int 20) (ty := .int) (C := RX6) (T := TX6) (N := 15) hx hb hts (sw_clf 6 _ rfl).1 tyX6 tyX6_ok nmX6 hown hK hP hD hS 0 rfl rfl 11 (by decide) (hts _ (sw_in 124 (by decide +kernel) rfl)) (fun _ h9 => h9) rfl (by decide +kernel) rfl rfl (Nat.le_of_ble_eq_true rfl) (show decode cX6_init 47 = .ok (.putfield 33, 3) by decide +kernel) (fun H locs hP hD hS => ?_)
  have hP : va_P D sw_cl [(h0, .inr (6, [.ref sh, .ref q1, .ref q3, .ref q4, .ref q5, .int 0, .int 0, .int 0, .int 0, .int 0, .int 0, .int 20, .int 0, .int 0, .int 0])), (q1, .inr (5, [.ref (u2 0), .int 0])), ((u2 0), .inl (c3.1, 120, .inl fun _ => 0)), (q3, .inl (c3.2.1, 8, .inl fun _ => 0)), (q4, .inl (c3.1, 3, .inl fun _ => 0)), (q5, .inl (c3.1, 400, .inl fun _ => 0))] H := hP
  have hD : va_D A [(h0, .inr (6, [.ref sh, .ref q1, .ref q3, .ref q4, .ref q5, .int 0, .int 0, .int 0, .int 0, .int 0, .int 0, .int 20, .int 0, .int 0, .int 0])), (q1, .inr (5, [.ref (u2 0), .int 0])), ((u2 0), .inl (c3.1, 120, .inl fun _ => 0)), (q3, .inl (c3.2.1, 8, .inl fun _ => 0)), (q4, .inl (c3.1, 3, .inl fun _ => 0)), (q5, .inl (c3.1, 400, .inl fun _ => 0))] := hD
  refine lv_aload_n hx hb (show decode cX6_init 50 = .ok (.aload_n 0, 1) by decide +kernel) rfl (lv_at hl 0 rfl) ?_
  refine lv_iconst (v := 3) hx hb (show decode cX6_init 51 = .ok (.iconst 3, 1) by decide +kernel) (by decide) ?_
  refine va_put (D := D) (ci := 6) (v := .int 3) (ty := .int) (C := RX6) (T := TX6) (N := 15) hx hb hts (sw_clf 6 _ rfl).1 tyX6 tyX6_ok nmX6 hown hK hP hD hS 0 rfl rfl 12 (by decide) (hts _ (sw_in 126 (by decide +kernel) rfl)) (fun _ h9 => h9) rfl (by decide +kernel) rfl rfl (Nat.le_of_ble_eq_true rfl) (show decode cX6_init 52 = .ok (.putfield 37, 3) by decide +kernel) (fun H locs hP hD hS => ?_)
  have hP : va_P D sw_cl [(h0, .inr (6, [.ref sh, .ref q1, .ref q3, .ref q4, .ref q5, .int 0, .int 0, .int 0, .int 0, .int 0, .int 0, .int 20, .int 3, .int 0, .int 0])), (q1, .inr (5, [.ref (u2 0), .int 0])), ((u2 0), .inl (c3.1, 120, .inl fun _ => 0)), (q3, .inl (c3.2.1, 8, .inl fun _ => 0)), (q4, .inl (c3.1, 3, .inl fun _ => 0)), (q5, .inl (c3.1, 400, .inl fun _ => 0))] H := hP
  have hD : va_D A [(h0, .inr (6, [.ref sh, .ref q1, .ref q3, .ref q4, .ref q5, .int 0, .int 0, .int 0, .int 0, .int 0, .int 0, .int 20, .int 3, .int 0, .int 0])), (q1, .inr (5, [.ref (u2 0), .int 0])), ((u2 0), .inl (c3.1, 120, .inl fun _ => 0)), (q3, .inl (c3.2.1, 8, .inl fun _ => 0)), (q4, .inl (c3.1, 3, .inl fun _ => 0)), (q5, .inl (c3.1, 400, .inl fun _ => 0))] := hD
  have hP9 := hP.sub (ws' := [(h0, .inr (6, [.ref sh, .ref q1, .ref q3, .ref q4, .ref q5, .int 0, .int 0, .int 0, .int 0, .int 0, .int 0, .int 20, .int 3, .int 0, .int 0])), (q1, .inr (5, [.ref (u2 0), .int 0])), ((u2 0), .inl (c3.1, 120, .inl fun _ => 0)), (q3, .inl (c3.2.1, 8, .inl fun _ => 0)), (q4, .inl (c3.1, 3, .inl fun _ => 0)), (q5, .inl (c3.1, 400, .inl fun _ => 0))]) [0, 1, 2, 3, 4, 5] rfl
  have hD9 := hD.sub (ws' := [(h0, .inr (6, [.ref sh, .ref q1, .ref q3, .ref q4, .ref q5, .int 0, .int 0, .int 0, .int 0, .int 0, .int 0, .int 20, .int 3, .int 0, .int 0])), (q1, .inr (5, [.ref (u2 0), .int 0])), ((u2 0), .inl (c3.1, 120, .inl fun _ => 0)), (q3, .inl (c3.2.1, 8, .inl fun _ => 0)), (q4, .inl (c3.1, 3, .inl fun _ => 0)), (q5, .inl (c3.1, 400, .inl fun _ => 0))]) [0, 1, 2, 3, 4, 5] (by decide) rfl
  refine W.widen (k := 5) (n := 533) (Nat.le_of_ble_eq_true rfl) (Nat.le_of_ble_eq_true rfl) ?_
  exact W.vret hx hb hr (fun t ht hW => ⟨⟨(fun i => [q1, (u2 0), q3, q4, q5].getD i 0), rfl, trivial, by rw [ht]; exact hP9, va_K.moved hW.alike hK, hD9⟩, hS.F ht⟩) hS.2.2 (show decode cX6_init 55 = .ok (.return_, 1) by decide +kernel)
