/-! THE RELATION between calls -/
def sw_jr (a τ : sw_S) : Prop := (1 ≤ a 1 2 ∧ a 1 2 ≤ 5) ∧ τ 26 2 = a 1 2 ∧ sw_fn a ∧ (τ 26 7 = a 0 8 ∧ (0 ≤ a 0 8 ∧ a 0 8 ≤ 6) ∧ ∀ j : Nat, (j : Int) < a 0 8 → τ 30 j = a 23 j ∧ τ 31 j = a 24 j ∧ 0 ≤ a 23 j ∧ a 23 j ≤ a 1 0) ∧ τ 26 13 = a 5 10
def sw_jl (a τ : sw_S) : Prop := (τ 26 29 = a 11 1 ∧ 0 ≤ a 11 1 ∧ a 11 1 ≤ 1000) ∧ (τ 26 30 = a 11 2 ∧ 0 ≤ a 11 2 ∧ a 11 2 ≤ 1000) ∧ (τ 26 31 = a 11 3 ∧ 0 ≤ a 11 3 ∧ a 11 3 ≤ 10) ∧ (τ 26 32 = a 11 4 ∧ 100 ≤ a 11 4 ∧ a 11 4 ≤ 400)
def sw_jb (a τ : sw_S) : Prop := ∀ j, j < 60 → τ 40 j = a 13 j ∧ 0 ≤ a 13 j ∧ a 13 j ≤ 99
/-- one sheet: its cell o, its items' cell o + 1 -/
def sw_jt (a τ : sw_S) (s o c : Nat) : Prop := (τ 41 s = 0 ↔ ¬ a o 1 = 0) ∧ τ 42 s = a o 2 ∧ (0 ≤ a o 2 ∧ a o 2 ≤ 2) ∧ τ 43 s = a o 3 ∧ (0 ≤ a o 3 ∧ a o 3 ≤ 60) ∧ ∀ j, j < 60 → τ 44 (60 * s + j) = a c j
def sw_js (a τ : sw_S) : Prop := τ 26 39 = a 0 9 ∧ (sw_jt a τ 0 15 16 ∧ sw_jt a τ 1 17 18 ∧ sw_jt a τ 2 19 20 ∧ sw_jt a τ 3 21 22)
def sw_J (N : Int) (a τ : sw_S) : Prop := sw_jp N a τ ∧ sw_jr a τ ∧ sw_jl a τ ∧ sw_jb a τ ∧ sw_js a τ
theorem sw_J_mono {N N' : Int} {a τ : sw_S} (h : N ≤ N') (J : sw_J N a τ) : sw_J N' a τ := by
  obtain ⟨⟨⟨c1, c2, c3, c4, c5, c6, c7, c8, c9, c10, c11, c12, c13, c14⟩, p⟩, q⟩ := J
  exact ⟨⟨⟨c1, c2, c3, c4, c5, c6, c7, c8, c9, by omega, by omega, by omega, c13, c14⟩, p⟩, q⟩
/-- a call of both sides: both come back with the same int, and the relation holds again -/
def sw_St (Mc Mm : sw_M) (as : List sw_Vl) (N : Int) (σ : sw_S) : Prop := ∃ Q1 : Option sw_Vl → sw_S → Prop, sw_Con sw_ly sw_rho Mc (.inr (.inr 0) :: as) σ Q1 ∧ ∀ r1 σ1, Q1 r1 σ1 → ∃ Q2 : Option sw_Vl → sw_S → Prop, sw_Con sw_ly sw_rho Mm (.inr (.inr 26) :: as) σ1 Q2 ∧ ∀ r2 σ2, Q2 r2 σ2 → ∃ x : Int, r1 = some (.inl x) ∧ r2 = some (.inl x) ∧ sw_J (N + 400) σ2 σ2
theorem sw_J_cong {N : Int} {a τ a' τ' : sw_S} (J : sw_J N a τ) (ga : sw_gs a') (gt : sw_gs τ') (fn : sw_fn a') (ha : ∀ i j, i < 26 → i ≠ 3 → i ≠ 4 → i ≠ 25 → a' i j = a i j) (ht : ∀ i j, 26 ≤ i → i ≠ 35 → i ≠ 36 → i ≠ 37 → i ≠ 38 → i ≠ 45 → τ' i j = τ i j) : sw_J N a' τ' := by
  have ra : ∀ i, i < 26 → i ≠ 3 → i ≠ 4 → i ≠ 25 → a' i = a i := fun i h1 h2 h3 h4 => funext fun j => ha i j h1 h2 h3 h4
  have rt : ∀ i, 26 ≤ i → i ≠ 35 → i ≠ 36 → i ≠ 37 → i ≠ 38 → i ≠ 45 → τ' i = τ i := fun i h1 h2 h3 h4 h5 h6 => funext fun j => ht i j h1 h2 h3 h4 h5 h6
  have a0 := ra 0 (by decide) (by decide) (by decide) (by decide)
  have a1 := ra 1 (by decide) (by decide) (by decide) (by decide)
  have a2 := ra 2 (by decide) (by decide) (by decide) (by decide)
  have a5 := ra 5 (by decide) (by decide) (by decide) (by decide)
  have a6 := ra 6 (by decide) (by decide) (by decide) (by decide)
  have a7 := ra 7 (by decide) (by decide) (by decide) (by decide)
  have a8 := ra 8 (by decide) (by decide) (by decide) (by decide)
  have a9 := ra 9 (by decide) (by decide) (by decide) (by decide)
  have a10 := ra 10 (by decide) (by decide) (by decide) (by decide)
  have a11 := ra 11 (by decide) (by decide) (by decide) (by decide)
  have a13 := ra 13 (by decide) (by decide) (by decide) (by decide)
  have a15 := ra 15 (by decide) (by decide) (by decide) (by decide)
  have a16 := ra 16 (by decide) (by decide) (by decide) (by decide)
  have a17 := ra 17 (by decide) (by decide) (by decide) (by decide)
  have a18 := ra 18 (by decide) (by decide) (by decide) (by decide)
  have a19 := ra 19 (by decide) (by decide) (by decide) (by decide)
  have a20 := ra 20 (by decide) (by decide) (by decide) (by decide)
  have a21 := ra 21 (by decide) (by decide) (by decide) (by decide)
  have a22 := ra 22 (by decide) (by decide) (by decide) (by decide)
  have a23 := ra 23 (by decide) (by decide) (by decide) (by decide)
  have a24 := ra 24 (by decide) (by decide) (by decide) (by decide)
  have t26 := rt 26 (by decide) (by decide) (by decide) (by decide) (by decide) (by decide)
  have t27 := rt 27 (by decide) (by decide) (by decide) (by decide) (by decide) (by decide)
  have t28 := rt 28 (by decide) (by decide) (by decide) (by decide) (by decide) (by decide)
  have t29 := rt 29 (by decide) (by decide) (by decide) (by decide) (by decide) (by decide)
  have t30 := rt 30 (by decide) (by decide) (by decide) (by decide) (by decide) (by decide)
  have t31 := rt 31 (by decide) (by decide) (by decide) (by decide) (by decide) (by decide)
  have t32 := rt 32 (by decide) (by decide) (by decide) (by decide) (by decide) (by decide)
  have t33 := rt 33 (by decide) (by decide) (by decide) (by decide) (by decide) (by decide)
  have t34 := rt 34 (by decide) (by decide) (by decide) (by decide) (by decide) (by decide)
  have t39 := rt 39 (by decide) (by decide) (by decide) (by decide) (by decide) (by decide)
  have t40 := rt 40 (by decide) (by decide) (by decide) (by decide) (by decide) (by decide)
  have t41 := rt 41 (by decide) (by decide) (by decide) (by decide) (by decide) (by decide)
  have t42 := rt 42 (by decide) (by decide) (by decide) (by decide) (by decide) (by decide)
  have t43 := rt 43 (by decide) (by decide) (by decide) (by decide) (by decide) (by decide)
  have t44 := rt 44 (by decide) (by decide) (by decide) (by decide) (by decide) (by decide)
  obtain ⟨⟨⟨c1, c2⟩, c3, c4, c5⟩, ⟨d1, d2, d3, d4, d5⟩, l0, b0, s0⟩ := J
  unfold sw_J sw_jp sw_ck sw_ro sw_jw sw_jz sw_jr sw_jl sw_jb sw_js sw_jt sw_lm
  unfold sw_ro at c2
  unfold sw_jw at c4
  unfold sw_jz sw_lm at c5
  unfold sw_jl at l0
  unfold sw_jb at b0
  unfold sw_js sw_jt at s0
  rw [a0, a1, a2, a5, a6, a7, a8, a9, a10, a11, a13, a15, a16, a17, a18, a19, a20, a21, a22, a23, a24, t26, t27, t28, t29, t30, t31, t32, t33, t34, t39, t40, t41, t42, t43, t44]
  exact ⟨⟨⟨ga, c2⟩, gt, c4, c5⟩, ⟨d1, d2, fn, d4, d5⟩, l0, b0, s0⟩
theorem st_ring (N : Int) (hN : 0 ≤ N ∧ N ≤ 900000) (σ : sw_S) (J : sw_J N σ σ) (k : Int) (gk : sw_g k) : sw_St M_X7_ring M_X8_ring [.inl k] N σ := by
  obtain ⟨⟨c, g0, w0, z0⟩, r0, l0, b0, s0⟩ := id J
  obtain ⟨hσ, hD, hV, hL, hpl, hspd, hbr, her, hmg, h61, h514, h513, h59, hro⟩ := id c
  obtain ⟨e0, e1, e10, e11, e12, e16, e17, e18, e19, e20, e32, e33, e39, er⟩ := id w0
  obtain ⟨e3, hz, hzz, hlm⟩ := id z0
  obtain ⟨hA, e2, hf, ⟨e7, hst, hsp⟩, e13⟩ := id r0
  obtain ⟨⟨el0, hl0⟩, ⟨el1, hl1⟩, ⟨ewt, hwt⟩, ⟨ekp, hkp⟩⟩ := id l0
  obtain ⟨efi, hsh⟩ := id s0
  refine ⟨_, cc_ring σ k gk, fun r1 σ1 q1 => ?_⟩
  rcases q1 with ⟨h1, h2, h3⟩ | ⟨h1, h2, h3⟩
  · have gs1 : sw_gs σ1 := by rw [← h3]; exact hσ
    refine ⟨_, mm_ring σ1 k gk, fun r2 σ2 q2 => ?_⟩
    rcases q2 with ⟨m1, m2, m3⟩ | ⟨m1, m2, m3⟩
    · refine ⟨_, h2, m2, ?_⟩
      rw [← m3, ← h3]
      exact sw_J_mono (N := N) (by omega) J
    · exfalso
      omega
  · have gs1 : sw_gs σ1 := by rw [← h3]; exact sw_gs_u hσ 5 10 gk
    refine ⟨_, mm_ring σ1 k gk, fun r2 σ2 q2 => ?_⟩
    rcases q2 with ⟨m1, m2, m3⟩ | ⟨m1, m2, m3⟩
    · exfalso
      omega
    · refine ⟨_, h2, m2, ?_⟩
      subst h3
      subst m3
      exact sw_J_mono (N := N) (by omega) ⟨⟨⟨(sw_gs_u (sw_gs_u hσ 5 10 gk) 26 13 gk), hD, hV, hL, hpl, hspd, hbr, her, hmg, h61, h514, h513, h59, hro⟩, (sw_gs_u (sw_gs_u hσ 5 10 gk) 26 13 gk), ⟨e0, e1, e10, e11, e12, e16, e17, e18, e19, e20, e32, e33, e39, er⟩, ⟨e3, hz, hzz, hlm⟩⟩, ⟨hA, e2, hf, ⟨e7, hst, hsp⟩, rfl⟩, ⟨⟨el0, hl0⟩, ⟨el1, hl1⟩, ⟨ewt, hwt⟩, ⟨ekp, hkp⟩⟩, b0, ⟨efi, hsh⟩⟩
theorem st_guard (N : Int) (hN : 0 ≤ N ∧ N ≤ 900000) (σ : sw_S) (J : sw_J N σ σ) (m b : Int) (gm : sw_g m) (gb : sw_g b) : sw_St M_X7_guard M_X8_guard [.inl m, .inl b] N σ := by
  obtain ⟨⟨c, g0, w0, z0⟩, r0, l0, b0, s0⟩ := id J
  obtain ⟨hσ, hD, hV, hL, hpl, hspd, hbr, her, hmg, h61, h514, h513, h59, hro⟩ := id c
  obtain ⟨e0, e1, e10, e11, e12, e16, e17, e18, e19, e20, e32, e33, e39, er⟩ := id w0
  obtain ⟨e3, hz, hzz, hlm⟩ := id z0
  obtain ⟨hA, e2, hf, ⟨e7, hst, hsp⟩, e13⟩ := id r0
  obtain ⟨⟨el0, hl0⟩, ⟨el1, hl1⟩, ⟨ewt, hwt⟩, ⟨ekp, hkp⟩⟩ := id l0
  obtain ⟨efi, hsh⟩ := id s0
  refine ⟨_, cc_guard σ m b gm gb, fun r1 σ1 q1 => ?_⟩
  rcases q1 with ⟨h1, h2, h3⟩ | ⟨h1, h2, h3⟩
  · have gs1 : sw_gs σ1 := by rw [← h3]; exact hσ
    refine ⟨_, mm_guard σ1 m b gm gb, fun r2 σ2 q2 => ?_⟩
    rcases q2 with ⟨m1, m2, m3⟩ | ⟨m1, m2, m3⟩
    · refine ⟨_, h2, m2, ?_⟩
      rw [← m3, ← h3]
      exact sw_J_mono (N := N) (by omega) J
    · exfalso
      omega
  · have gs1 : sw_gs σ1 := by rw [← h3]; exact sw_gs_u (sw_gs_u hσ 5 11 gm) 5 12 gb
    refine ⟨_, mm_guard σ1 m b gm gb, fun r2 σ2 q2 => ?_⟩
    rcases q2 with ⟨m1, m2, m3⟩ | ⟨m1, m2, m3⟩
    · exfalso
      omega
    · refine ⟨_, h2, m2, ?_⟩
      subst h3
      subst m3
      exact sw_J_mono (N := N) (by omega) ⟨⟨⟨(sw_gs_u (sw_gs_u (sw_gs_u (sw_gs_u hσ 5 11 gm) 5 12 gb) 26 16 gm) 26 17 gb), hD, hV, hL, hpl, hspd, h1.2, her, h1.1, h61, h514, h513, h59, hro⟩, (sw_gs_u (sw_gs_u (sw_gs_u (sw_gs_u hσ 5 11 gm) 5 12 gb) 26 16 gm) 26 17 gb), ⟨e0, e1, e10, e11, e12, rfl, rfl, e18, e19, e20, e32, e33, e39, er⟩, ⟨e3, hz, hzz, hlm⟩⟩, ⟨hA, e2, hf, ⟨e7, hst, hsp⟩, e13⟩, ⟨⟨el0, hl0⟩, ⟨el1, hl1⟩, ⟨ewt, hwt⟩, ⟨ekp, hkp⟩⟩, b0, ⟨efi, hsh⟩⟩
theorem st_loads (N : Int) (hN : 0 ≤ N ∧ N ≤ 900000) (σ : sw_S) (J : sw_J N σ σ) (a b w : Int) (ga : sw_g a) (gb : sw_g b) (gw : sw_g w) : sw_St M_X7_loads M_X8_loads [.inl a, .inl b, .inl w] N σ := by
  obtain ⟨⟨c, g0, w0, z0⟩, r0, l0, b0, s0⟩ := id J
  obtain ⟨hσ, hD, hV, hL, hpl, hspd, hbr, her, hmg, h61, h514, h513, h59, hro⟩ := id c
  obtain ⟨e0, e1, e10, e11, e12, e16, e17, e18, e19, e20, e32, e33, e39, er⟩ := id w0
  obtain ⟨e3, hz, hzz, hlm⟩ := id z0
  obtain ⟨hA, e2, hf, ⟨e7, hst, hsp⟩, e13⟩ := id r0
  obtain ⟨⟨el0, hl0⟩, ⟨el1, hl1⟩, ⟨ewt, hwt⟩, ⟨ekp, hkp⟩⟩ := id l0
  obtain ⟨efi, hsh⟩ := id s0
  refine ⟨_, cc_loads σ a b w ga gb gw, fun r1 σ1 q1 => ?_⟩
  rcases q1 with ⟨h1, h2, h3⟩ | ⟨h1, h2, h3⟩
  · have gs1 : sw_gs σ1 := by rw [← h3]; exact hσ
    refine ⟨_, mm_loads σ1 a b w ga gb gw, fun r2 σ2 q2 => ?_⟩
    rcases q2 with ⟨m1, m2, m3⟩ | ⟨m1, m2, m3⟩
    · refine ⟨_, h2, m2, ?_⟩
      rw [← m3, ← h3]
      exact sw_J_mono (N := N) (by omega) J
    · exfalso
      omega
  · have gs1 : sw_gs σ1 := by rw [← h3]; exact sw_gs_u (sw_gs_u (sw_gs_u hσ 11 1 ga) 11 2 gb) 11 3 gw
    refine ⟨_, mm_loads σ1 a b w ga gb gw, fun r2 σ2 q2 => ?_⟩
    rcases q2 with ⟨m1, m2, m3⟩ | ⟨m1, m2, m3⟩
    · exfalso
      omega
    · refine ⟨_, h2, m2, ?_⟩
      subst h3
      subst m3
      exact sw_J_mono (N := N) (by omega) ⟨⟨⟨(sw_gs_u (sw_gs_u (sw_gs_u (sw_gs_u (sw_gs_u (sw_gs_u hσ 11 1 ga) 11 2 gb) 11 3 gw) 26 29 ga) 26 30 gb) 26 31 gw), hD, hV, hL, hpl, hspd, hbr, her, hmg, h61, h514, h513, h59, hro⟩, (sw_gs_u (sw_gs_u (sw_gs_u (sw_gs_u (sw_gs_u (sw_gs_u hσ 11 1 ga) 11 2 gb) 11 3 gw) 26 29 ga) 26 30 gb) 26 31 gw), ⟨e0, e1, e10, e11, e12, e16, e17, e18, e19, e20, e32, e33, e39, er⟩, ⟨e3, hz, hzz, hlm⟩⟩, ⟨hA, e2, hf, ⟨e7, hst, hsp⟩, e13⟩, ⟨⟨rfl, h1.1⟩, ⟨rfl, h1.2.1⟩, ⟨rfl, h1.2.2⟩, ⟨ekp, hkp⟩⟩, b0, ⟨efi, hsh⟩⟩
theorem st_ratio (N : Int) (hN : 0 ≤ N ∧ N ≤ 900000) (σ : sw_S) (J : sw_J N σ σ) (h : Int) (gh : sw_g h) : sw_St M_X7_ratio M_X8_ratio [.inl h] N σ := by
  obtain ⟨⟨c, g0, w0, z0⟩, r0, l0, b0, s0⟩ := id J
  obtain ⟨hσ, hD, hV, hL, hpl, hspd, hbr, her, hmg, h61, h514, h513, h59, hro⟩ := id c
  obtain ⟨e0, e1, e10, e11, e12, e16, e17, e18, e19, e20, e32, e33, e39, er⟩ := id w0
  obtain ⟨e3, hz, hzz, hlm⟩ := id z0
  obtain ⟨hA, e2, hf, ⟨e7, hst, hsp⟩, e13⟩ := id r0
  obtain ⟨⟨el0, hl0⟩, ⟨el1, hl1⟩, ⟨ewt, hwt⟩, ⟨ekp, hkp⟩⟩ := id l0
  obtain ⟨efi, hsh⟩ := id s0
  refine ⟨_, cc_ratio σ h gh, fun r1 σ1 q1 => ?_⟩
  rcases q1 with ⟨h1, h2, h3⟩ | ⟨h1, h2, h3⟩
  · have gs1 : sw_gs σ1 := by rw [← h3]; exact hσ
    have k26 : σ1 26 = σ 26 := by subst h3; rfl
    refine ⟨_, mm_ratio σ1 h gh, fun r2 σ2 q2 => ?_⟩
    rcases q2 with ⟨m1, m2, m3⟩ | ⟨m1, m2, m3⟩
    · (try rw [k26] at m1)
      (try rw [k26] at m2)
      refine ⟨_, h2, m2, ?_⟩
      rw [← m3, ← h3]
      exact sw_J_mono (N := N) (by omega) J
    · (try rw [k26] at m1)
      exfalso
      omega
  · have gs1 : sw_gs σ1 := by rw [← h3]; exact sw_gs_u hσ 11 4 gh
    have k26 : σ1 26 = σ 26 := by subst h3; rfl
    refine ⟨_, mm_ratio σ1 h gh, fun r2 σ2 q2 => ?_⟩
    rcases q2 with ⟨m1, m2, m3⟩ | ⟨m1, m2, m3⟩
    · (try rw [k26] at m1)
      exfalso
      omega
    · (try rw [k26] at m1)
      (try rw [k26] at m2)
      refine ⟨_, h2, m2.trans (congrArg (fun z : Int => some (Sum.inl z)) ekp), ?_⟩
      subst h3
      subst m3
      exact sw_J_mono (N := N) (by omega) ⟨⟨⟨(sw_gs_u (sw_gs_u hσ 11 4 gh) 26 32 gh), hD, hV, hL, hpl, hspd, hbr, her, hmg, h61, h514, h513, h59, hro⟩, (sw_gs_u (sw_gs_u hσ 11 4 gh) 26 32 gh), ⟨e0, e1, e10, e11, e12, e16, e17, e18, e19, e20, e32, e33, e39, er⟩, ⟨e3, hz, hzz, hlm⟩⟩, ⟨hA, e2, hf, ⟨e7, hst, hsp⟩, e13⟩, ⟨⟨el0, hl0⟩, ⟨el1, hl1⟩, ⟨ewt, hwt⟩, ⟨rfl, h1⟩⟩, b0, ⟨efi, hsh⟩⟩
theorem st_link (N : Int) (hN : 0 ≤ N ∧ N ≤ 900000) (σ : sw_S) (J : sw_J N σ σ) (l k : Int) (gl : sw_g l) (gk : sw_g k) : sw_St M_X7_link M_X8_link [.inl l, .inl k] N σ := by
  obtain ⟨⟨c, g0, w0, z0⟩, r0, l0, b0, s0⟩ := id J
  obtain ⟨hσ, hD, hV, hL, hpl, hspd, hbr, her, hmg, h61, h514, h513, h59, hro⟩ := id c
  obtain ⟨e0, e1, e10, e11, e12, e16, e17, e18, e19, e20, e32, e33, e39, er⟩ := id w0
  obtain ⟨e3, hz, hzz, hlm⟩ := id z0
  obtain ⟨hA, e2, hf, ⟨e7, hst, hsp⟩, e13⟩ := id r0
  obtain ⟨⟨el0, hl0⟩, ⟨el1, hl1⟩, ⟨ewt, hwt⟩, ⟨ekp, hkp⟩⟩ := id l0
  obtain ⟨efi, hsh⟩ := id s0
  refine ⟨_, cc_link σ l k gl gk, fun r1 σ1 q1 => ?_⟩
  rcases q1 with ⟨h1, h2, h3⟩ | ⟨h1, h2, h3⟩ | ⟨h1, h2, h3⟩
  · have gs1 : sw_gs σ1 := by rw [← h3]; exact hσ
    refine ⟨_, mm_link σ1 l k gl gk, fun r2 σ2 q2 => ?_⟩
    rcases q2 with ⟨m1, m2, m3⟩ | ⟨m1, m2, m3⟩ | ⟨m1, m2, m3⟩
    · refine ⟨_, h2, m2, ?_⟩
      rw [← m3, ← h3]
      exact sw_J_mono (N := N) (by omega) J
    · exfalso
      omega
    · exfalso
      omega
  · have gs1 : sw_gs σ1 := by rw [← h3]; exact sw_gs_u hσ 8 l.toNat (by decide)
    refine ⟨_, mm_link σ1 l k gl gk, fun r2 σ2 q2 => ?_⟩
    rcases q2 with ⟨m1, m2, m3⟩ | ⟨m1, m2, m3⟩ | ⟨m1, m2, m3⟩
    · exfalso
      omega
    · refine ⟨_, h2, m2, ?_⟩
      subst h3
      subst m3
      exact sw_J_mono (N := N) (by omega) ⟨⟨⟨(sw_gs_u (sw_gs_u hσ 8 l.toNat (by decide)) 32 l.toNat (by decide)), hD, hV, hL, hpl, hspd, hbr, her, hmg, h61, h514, h513, h59, hro⟩, (sw_gs_u (sw_gs_u hσ 8 l.toNat (by decide)) 32 l.toNat (by decide)), ⟨e0, e1, e10, e11, e12, e16, e17, e18, e19, e20, (fun j hj => by show (if 32 = 32 ∧ j = l.toNat then (1 : Int) else σ 32 j) = (if 8 = 8 ∧ j = l.toNat then (1 : Int) else σ 8 j); split <;> split <;> first | rfl | omega | exact e32 j hj), e33, e39, er⟩, ⟨e3, hz, hzz, hlm⟩⟩, ⟨hA, e2, hf, ⟨e7, hst, hsp⟩, e13⟩, ⟨⟨el0, hl0⟩, ⟨el1, hl1⟩, ⟨ewt, hwt⟩, ⟨ekp, hkp⟩⟩, b0, ⟨efi, hsh⟩⟩
    · exfalso
      omega
  · have gs1 : sw_gs σ1 := by rw [← h3]; exact sw_gs_u hσ 8 l.toNat (by decide)
    refine ⟨_, mm_link σ1 l k gl gk, fun r2 σ2 q2 => ?_⟩
    rcases q2 with ⟨m1, m2, m3⟩ | ⟨m1, m2, m3⟩ | ⟨m1, m2, m3⟩
    · exfalso
      omega
    · exfalso
      omega
    · refine ⟨_, h2, m2, ?_⟩
      subst h3
      subst m3
      exact sw_J_mono (N := N) (by omega) ⟨⟨⟨(sw_gs_u (sw_gs_u hσ 8 l.toNat (by decide)) 32 l.toNat (by decide)), hD, hV, hL, hpl, hspd, hbr, her, hmg, h61, h514, h513, h59, hro⟩, (sw_gs_u (sw_gs_u hσ 8 l.toNat (by decide)) 32 l.toNat (by decide)), ⟨e0, e1, e10, e11, e12, e16, e17, e18, e19, e20, (fun j hj => by show (if 32 = 32 ∧ j = l.toNat then (0 : Int) else σ 32 j) = (if 8 = 8 ∧ j = l.toNat then (0 : Int) else σ 8 j); split <;> split <;> first | rfl | omega | exact e32 j hj), e33, e39, er⟩, ⟨e3, hz, hzz, hlm⟩⟩, ⟨hA, e2, hf, ⟨e7, hst, hsp⟩, e13⟩, ⟨⟨el0, hl0⟩, ⟨el1, hl1⟩, ⟨ewt, hwt⟩, ⟨ekp, hkp⟩⟩, b0, ⟨efi, hsh⟩⟩
theorem st_error (N : Int) (hN : 0 ≤ N ∧ N ≤ 900000) (σ : sw_S) (J : sw_J N σ σ) (s e : Int) (gs : sw_g s) (ge : sw_g e) : sw_St M_X7_error M_X8_error [.inl s, .inl e] N σ := by
  obtain ⟨⟨c, g0, w0, z0⟩, r0, l0, b0, s0⟩ := id J
  obtain ⟨hσ, hD, hV, hL, hpl, hspd, hbr, her, hmg, h61, h514, h513, h59, hro⟩ := id c
  obtain ⟨e0, e1, e10, e11, e12, e16, e17, e18, e19, e20, e32, e33, e39, er⟩ := id w0
  obtain ⟨e3, hz, hzz, hlm⟩ := id z0
  obtain ⟨hA, e2, hf, ⟨e7, hst, hsp⟩, e13⟩ := id r0
  obtain ⟨⟨el0, hl0⟩, ⟨el1, hl1⟩, ⟨ewt, hwt⟩, ⟨ekp, hkp⟩⟩ := id l0
  obtain ⟨efi, hsh⟩ := id s0
  refine ⟨_, cc_error σ s e gs ge, fun r1 σ1 q1 => ?_⟩
  rcases q1 with ⟨h1, h2, h3⟩ | ⟨h1, h2, h3⟩
  · have gs1 : sw_gs σ1 := by rw [← h3]; exact hσ
    refine ⟨_, mm_error σ1 s e gs ge, fun r2 σ2 q2 => ?_⟩
    rcases q2 with ⟨m1, m2, m3⟩ | ⟨m1, m2, m3⟩
    · refine ⟨_, h2, m2, ?_⟩
      rw [← m3, ← h3]
      exact sw_J_mono (N := N) (by omega) J
    · exfalso
      omega
  · have gs1 : sw_gs σ1 := by rw [← h3]; exact sw_gs_u hσ 9 s.toNat ge
    refine ⟨_, mm_error σ1 s e gs ge, fun r2 σ2 q2 => ?_⟩
    rcases q2 with ⟨m1, m2, m3⟩ | ⟨m1, m2, m3⟩
    · exfalso
      omega
    · refine ⟨_, h2, m2, ?_⟩
      subst h3
      subst m3
      exact sw_J_mono (N := N) (by omega) ⟨⟨⟨(sw_gs_u (sw_gs_u hσ 9 s.toNat ge) 33 s.toNat ge), hD, hV, hL, hpl, hspd, hbr, (fun j hj => by show -1000 ≤ (if 9 = 9 ∧ j = s.toNat then e else σ 9 j) ∧ (if 9 = 9 ∧ j = s.toNat then e else σ 9 j) ≤ 1000; split; exact h1.2; exact her j hj), hmg, h61, h514, h513, h59, hro⟩, (sw_gs_u (sw_gs_u hσ 9 s.toNat ge) 33 s.toNat ge), ⟨e0, e1, e10, e11, e12, e16, e17, e18, e19, e20, e32, (fun j hj => by show (if 33 = 33 ∧ j = s.toNat then e else σ 33 j) = (if 9 = 9 ∧ j = s.toNat then e else σ 9 j); split <;> split <;> first | rfl | omega | exact e33 j hj), e39, er⟩, ⟨e3, hz, hzz, hlm⟩⟩, ⟨hA, e2, hf, ⟨e7, hst, hsp⟩, e13⟩, ⟨⟨el0, hl0⟩, ⟨el1, hl1⟩, ⟨ewt, hwt⟩, ⟨ekp, hkp⟩⟩, b0, ⟨efi, hsh⟩⟩
theorem st_stop (N : Int) (hN : 0 ≤ N ∧ N ≤ 900000) (σ : sw_S) (J : sw_J N σ σ) (p k : Int) (gp : sw_g p) (gk : sw_g k) : sw_St M_X7_stop M_X8_stop [.inl p, .inl k] N σ := by
  obtain ⟨⟨c, g0, w0, z0⟩, r0, l0, b0, s0⟩ := id J
  obtain ⟨hσ, hD, hV, hL, hpl, hspd, hbr, her, hmg, h61, h514, h513, h59, hro⟩ := id c
  obtain ⟨e0, e1, e10, e11, e12, e16, e17, e18, e19, e20, e32, e33, e39, er⟩ := id w0
  obtain ⟨e3, hz, hzz, hlm⟩ := id z0
  obtain ⟨hA, e2, hf, ⟨e7, hst, hsp⟩, e13⟩ := id r0
  obtain ⟨⟨el0, hl0⟩, ⟨el1, hl1⟩, ⟨ewt, hwt⟩, ⟨ekp, hkp⟩⟩ := id l0
  obtain ⟨efi, hsh⟩ := id s0
  refine ⟨_, cc_stop σ hσ p k gp gk hst, fun r1 σ1 q1 => ?_⟩
  rcases q1 with ⟨h1, h2, h3⟩ | ⟨h1, h2, h3⟩ | ⟨h1, h2, h3⟩
  · have gs1 : sw_gs σ1 := by rw [← h3]; exact hσ
    have k26 : σ1 26 = σ 26 := by subst h3; rfl
    refine ⟨_, mm_stop σ1 gs1 p k gp gk (by (try rw [k26]); omega), fun r2 σ2 q2 => ?_⟩
    rcases q2 with ⟨m1, m2, m3⟩ | ⟨m1, m2, m3⟩ | ⟨m1, m2, m3⟩
    · (try rw [k26] at m1)
      (try rw [k26] at m2)
      refine ⟨_, h2, m2, ?_⟩
      rw [← m3, ← h3]
      exact sw_J_mono (N := N) (by omega) J
    · (try rw [k26] at m1)
      exfalso
      omega
    · (try rw [k26] at m1)
      exfalso
      omega
  · have gs1 : sw_gs σ1 := by rw [← h3]; exact hσ
    have k26 : σ1 26 = σ 26 := by subst h3; rfl
    refine ⟨_, mm_stop σ1 gs1 p k gp gk (by (try rw [k26]); omega), fun r2 σ2 q2 => ?_⟩
    rcases q2 with ⟨m1, m2, m3⟩ | ⟨m1, m2, m3⟩ | ⟨m1, m2, m3⟩
    · (try rw [k26] at m1)
      exfalso
      omega
    · (try rw [k26] at m1)
      (try rw [k26] at m2)
      refine ⟨_, h2, m2, ?_⟩
      rw [← m3, ← h3]
      exact sw_J_mono (N := N) (by omega) J
    · (try rw [k26] at m1)
      exfalso
      omega
  · have gs1 : sw_gs σ1 := by rw [← h3]; exact (sw_gs_u (sw_gs_u (sw_gs_u hσ 23 (σ 0 8).toNat gp) 24 (σ 0 8).toNat gk) 0 8 (by omega))
    have k26 : σ1 26 = σ 26 := by subst h3; rfl
    refine ⟨_, mm_stop σ1 gs1 p k gp gk (by (try rw [k26]); omega), fun r2 σ2 q2 => ?_⟩
    rcases q2 with ⟨m1, m2, m3⟩ | ⟨m1, m2, m3⟩ | ⟨m1, m2, m3⟩
    · (try rw [k26] at m1)
      exfalso
      omega
    · (try rw [k26] at m1)
      exfalso
      omega
    · (try rw [k26] at m1)
      (try rw [k26] at m2)
      refine ⟨_, h2, m2.trans (congrArg (fun z : Int => some (Sum.inl z)) (by omega)), ?_⟩
      rw [k26, e7] at m3
      subst h3
      subst m3
      exact sw_J_mono (N := N) (by omega) ⟨⟨⟨(sw_gs_u (sw_gs_u (sw_gs_u (sw_gs_u (sw_gs_u (sw_gs_u hσ 23 (σ 0 8).toNat gp) 24 (σ 0 8).toNat gk) 0 8 (by omega)) 30 (σ 0 8).toNat gp) 31 (σ 0 8).toNat gk) 26 7 (show sw_g (σ 0 8 + 1) by omega)), hD, hV, hL, hpl, hspd, hbr, her, hmg, h61, h514, h513, h59, hro⟩, (sw_gs_u (sw_gs_u (sw_gs_u (sw_gs_u (sw_gs_u (sw_gs_u hσ 23 (σ 0 8).toNat gp) 24 (σ 0 8).toNat gk) 0 8 (by omega)) 30 (σ 0 8).toNat gp) 31 (σ 0 8).toNat gk) 26 7 (show sw_g (σ 0 8 + 1) by omega)), ⟨e0, e1, e10, e11, e12, e16, e17, e18, e19, e20, e32, e33, e39, er⟩, ⟨e3, hz, hzz, hlm⟩⟩, ⟨hA, e2, hf, ⟨rfl, (show 0 ≤ σ 0 8 + 1 ∧ σ 0 8 + 1 ≤ 6 by omega), (fun j hj => by show (if 30 = 30 ∧ j = (σ 0 8).toNat then p else σ 30 j) = (if 23 = 23 ∧ j = (σ 0 8).toNat then p else σ 23 j) ∧ (if 31 = 31 ∧ j = (σ 0 8).toNat then k else σ 31 j) = (if 24 = 24 ∧ j = (σ 0 8).toNat then k else σ 24 j) ∧ 0 ≤ (if 23 = 23 ∧ j = (σ 0 8).toNat then p else σ 23 j) ∧ (if 23 = 23 ∧ j = (σ 0 8).toNat then p else σ 23 j) ≤ σ 1 0; have hj : (j : Int) < σ 0 8 + 1 := hj; by_cases zz : j = (σ 0 8).toNat; (rw [if_pos ⟨rfl, zz⟩, if_pos ⟨rfl, zz⟩, if_pos ⟨rfl, zz⟩, if_pos ⟨rfl, zz⟩]; exact ⟨rfl, rfl, h1.1.1⟩); (rw [if_neg (fun y => zz y.2), if_neg (fun y => zz y.2), if_neg (fun y => zz y.2), if_neg (fun y => zz y.2)]; exact hsp j (by omega)))⟩, e13⟩, ⟨⟨el0, hl0⟩, ⟨el1, hl1⟩, ⟨ewt, hwt⟩, ⟨ekp, hkp⟩⟩, b0, ⟨efi, hsh⟩⟩
theorem st_log (N : Int) (hN : 0 ≤ N ∧ N ≤ 900000) (σ : sw_S) (J : sw_J N σ σ) (i w : Int) (gi : sw_g i) (gw : sw_g w) : sw_St M_X7_log M_X8_log [.inl i, .inl w] N σ := by
  obtain ⟨⟨c, g0, w0, z0⟩, r0, l0, b0, s0⟩ := id J
  obtain ⟨hσ, hD, hV, hL, hpl, hspd, hbr, her, hmg, h61, h514, h513, h59, hro⟩ := id c
  obtain ⟨e0, e1, e10, e11, e12, e16, e17, e18, e19, e20, e32, e33, e39, er⟩ := id w0
  obtain ⟨e3, hz, hzz, hlm⟩ := id z0
  obtain ⟨hA, e2, hf, ⟨e7, hst, hsp⟩, e13⟩ := id r0
  obtain ⟨⟨el0, hl0⟩, ⟨el1, hl1⟩, ⟨ewt, hwt⟩, ⟨ekp, hkp⟩⟩ := id l0
  obtain ⟨efi, hsh⟩ := id s0
  refine ⟨_, cc_log σ hσ (by omega) i w gi gw, fun r1 σ1 q1 => ?_⟩
  rcases q1 with ⟨h1, h2, h3⟩ | ⟨h1, h2, h3⟩
  · have gs1 : sw_gs σ1 := by rw [← h3]; exact hσ
    have k26 : σ1 26 = σ 26 := by subst h3; rfl
    refine ⟨_, mm_log σ1 gs1 (by (try rw [k26]); omega) i w gi gw, fun r2 σ2 q2 => ?_⟩
    rcases q2 with ⟨m1, m2, m3⟩ | ⟨m1, m2, m3⟩
    · (try rw [k26] at m1)
      (try rw [k26] at m2)
      refine ⟨_, h2, m2, ?_⟩
      rw [← m3, ← h3]
      exact sw_J_mono (N := N) (by omega) J
    · (try rw [k26] at m1)
      exfalso
      omega
  · have gs1 : sw_gs σ1 := by rw [← h3]; exact hσ
    have k26 : σ1 26 = σ 26 := by subst h3; rfl
    refine ⟨_, mm_log σ1 gs1 (by (try rw [k26]); omega) i w gi gw, fun r2 σ2 q2 => ?_⟩
    rcases q2 with ⟨m1, m2, m3⟩ | ⟨m1, m2, m3⟩
    · (try rw [k26] at m1)
      exfalso
      omega
    · (try rw [k26] at m1)
      (try rw [k26] at m2)
      subst h3
      subst m3
      refine ⟨_, h2, m2.trans (congrArg (fun z : Int => some (Sum.inl z)) ?_), sw_J_mono (N := N) (by omega) J⟩
      rw [e18, e39 _ (by omega), show 3 * ((σ 6 1 - 1 - i) % 40) + w = (σ 6 1 - 1 - i) % 40 * 3 + w by omega]
theorem st_slips (N : Int) (hN : 0 ≤ N ∧ N ≤ 900000) (σ : sw_S) (J : sw_J N σ σ) (p k : Int) (gp : sw_g p) (gk : sw_g k) : sw_St M_X7_slips M_X8_slips [.inl p, .inl k] N σ := by
  obtain ⟨⟨c, g0, w0, z0⟩, r0, l0, b0, s0⟩ := id J
  obtain ⟨hσ, hD, hV, hL, hpl, hspd, hbr, her, hmg, h61, h514, h513, h59, hro⟩ := id c
  obtain ⟨e0, e1, e10, e11, e12, e16, e17, e18, e19, e20, e32, e33, e39, er⟩ := id w0
  obtain ⟨e3, hz, hzz, hlm⟩ := id z0
  obtain ⟨hA, e2, hf, ⟨e7, hst, hsp⟩, e13⟩ := id r0
  obtain ⟨⟨el0, hl0⟩, ⟨el1, hl1⟩, ⟨ewt, hwt⟩, ⟨ekp, hkp⟩⟩ := id l0
  obtain ⟨efi, hsh⟩ := id s0
  refine ⟨_, cc_slips σ hσ hl0 hl1 hwt hD hkp p k gp gk, fun r1 σ1 q1 => ?_⟩
  rcases q1 with ⟨h1, h2, h3⟩ | ⟨h1, h2, h3⟩ | ⟨h1, h2, h3⟩
  · have gs1 : sw_gs σ1 := by rw [← h3]; exact hσ
    have k26 : σ1 26 = σ 26 := by subst h3; rfl
    refine ⟨_, mm_slips σ1 gs1 (by rw [k26]; omega) (by rw [k26]; omega) (by rw [k26]; omega) (by rw [k26]; omega) (by rw [k26]; omega) p k gp gk, fun r2 σ2 q2 => ?_⟩
    rcases q2 with ⟨m1, m2, m3⟩ | ⟨m1, m2, m3⟩ | ⟨m1, m2, m3⟩
    · (try rw [k26] at m1)
      (try rw [k26] at m2)
      refine ⟨_, h2, m2, ?_⟩
      rw [← m3, ← h3]
      exact sw_J_mono (N := N) (by omega) J
    · (try rw [k26] at m1)
      exfalso
      rw [e0] at m1
      omega
    · (try rw [k26] at m1)
      exfalso
      rw [e0] at m1
      omega
  · have gs1 : sw_gs σ1 := by rw [← h3]; exact hσ
    have k26 : σ1 26 = σ 26 := by subst h3; rfl
    refine ⟨_, mm_slips σ1 gs1 (by rw [k26]; omega) (by rw [k26]; omega) (by rw [k26]; omega) (by rw [k26]; omega) (by rw [k26]; omega) p k gp gk, fun r2 σ2 q2 => ?_⟩
    rcases q2 with ⟨m1, m2, m3⟩ | ⟨m1, m2, m3⟩ | ⟨m1, m2, m3⟩
    · (try rw [k26] at m1)
      exfalso
      (try rw [el0, el1, ewt, ekp] at m1)
      rw [e0] at m1
      first
      | exact m1 h1.1
      | exact m1.2 h1.2
    · (try rw [k26] at m1)
      (try rw [k26] at m2)
      refine ⟨_, h2, m2, ?_⟩
      rw [← m3, ← h3]
      exact sw_J_mono (N := N) (by omega) J
    · (try rw [k26] at m1)
      exfalso
      (try rw [el0, el1, ewt, ekp] at m1)
      rw [e0] at m1
      first
      | exact m1 h1.1
      | exact m1.2 h1.2
  · have gs1 : sw_gs σ1 := by rw [← h3]; exact hσ
    have k26 : σ1 26 = σ 26 := by subst h3; rfl
    refine ⟨_, mm_slips σ1 gs1 (by rw [k26]; omega) (by rw [k26]; omega) (by rw [k26]; omega) (by rw [k26]; omega) (by rw [k26]; omega) p k gp gk, fun r2 σ2 q2 => ?_⟩
    rcases q2 with ⟨m1, m2, m3⟩ | ⟨m1, m2, m3⟩ | ⟨m1, m2, m3⟩
    · (try rw [k26] at m1)
      exfalso
      (try rw [el0, el1, ewt, ekp] at m1)
      rw [e0] at m1
      first
      | exact m1 h1.1
      | exact h1.2 m1.2
    · (try rw [k26] at m1)
      exfalso
      (try rw [el0, el1, ewt, ekp] at m1)
      rw [e0] at m1
      first
      | exact m1 h1.1
      | exact h1.2 m1.2
    · (try rw [k26] at m1)
      (try rw [k26] at m2)
      refine ⟨_, h2, m2, ?_⟩
      rw [← m3, ← h3]
      exact sw_J_mono (N := N) (by omega) J
