theorem sw_rp_2 {T μ : sw_S} {c : Nat} (h : ∀ i j, i ≠ c → i ≠ 44 → T i j = μ i j) (hc : c ≠ 44) : T = sw_rp (sw_rp μ c (T c)) 44 (T 44) := by
  funext i j
  unfold sw_rp
  by_cases h1 : i = 44
  · rw [if_pos h1, h1]
  · rw [if_neg h1]
    by_cases h2 : i = c
    · rw [if_pos h2, h2]
    · rw [if_neg h2]; exact h i j h2 h1
theorem sw_J_it0 {N : Int} {μ T : sw_S} (J : sw_J N μ μ) (gT : sw_gs T) (hr : ∀ i j, i ≠ 16 → i ≠ 44 → T i j = μ i j) (hi : ∀ j, j < 60 → T 44 (60 * 0 + j) = T 16 j) (ho : ∀ y, ¬ (60 * 0 ≤ y ∧ y < 60 * 0 + 60) → T 44 y = μ 44 y) : sw_J N T T := by
  have e := sw_rp_2 hr (by decide)
  generalize T 16 = g1 at e hi
  generalize T 44 = g2 at e hi ho
  subst e
  obtain ⟨⟨c, g0, w0, z0⟩, r0, l0, b0, s0⟩ := id J
  obtain ⟨hμ, hD, hV, hL, hpl, hspd, hbr, her, hmg, h61, h514, h513, h59, hro⟩ := id c
  obtain ⟨e0, e1, e10, e11, e12, e16, e17, e18, e19, e20, e32, e33, e39, er⟩ := id w0
  obtain ⟨e3, hz, hzz, hlm⟩ := id z0
  obtain ⟨hA, e2, hf, ⟨e7, hst, hsp⟩, e13⟩ := id r0
  obtain ⟨⟨el0, hl0⟩, ⟨el1, hl1⟩, ⟨ewt, hwt⟩, ⟨ekp, hkp⟩⟩ := id l0
  obtain ⟨efi, t0, t1, t2, t3⟩ := id s0
  have hoo : ∀ y, ¬ (60 * 0 ≤ y ∧ y < 60 * 0 + 60) → (sw_rp (sw_rp μ 16 g1) 44 g2) 44 y = μ 44 y := ho
  exact ⟨⟨⟨gT, hD, hV, hL, hpl, hspd, hbr, her, hmg, h61, h514, h513, h59, hro⟩, gT, ⟨e0, e1, e10, e11, e12, e16, e17, e18, e19, e20, e32, e33, e39, er⟩, ⟨e3, hz, hzz, hlm⟩⟩, ⟨hA, e2, hf, ⟨e7, hst, hsp⟩, e13⟩, ⟨⟨el0, hl0⟩, ⟨el1, hl1⟩, ⟨ewt, hwt⟩, ⟨ekp, hkp⟩⟩, b0, ⟨efi, ⟨⟨t0.1, t0.2.1, t0.2.2.1, t0.2.2.2.1, t0.2.2.2.2.1, hi⟩, ⟨t1.1, t1.2.1, t1.2.2.1, t1.2.2.2.1, t1.2.2.2.2.1, fun j hj => by rw [hoo (60 * 1 + j) (by omega)]; exact t1.2.2.2.2.2 j hj⟩, ⟨t2.1, t2.2.1, t2.2.2.1, t2.2.2.2.1, t2.2.2.2.2.1, fun j hj => by rw [hoo (60 * 2 + j) (by omega)]; exact t2.2.2.2.2.2 j hj⟩, ⟨t3.1, t3.2.1, t3.2.2.1, t3.2.2.2.1, t3.2.2.2.2.1, fun j hj => by rw [hoo (60 * 3 + j) (by omega)]; exact t3.2.2.2.2.2 j hj⟩⟩⟩⟩
theorem sw_J_it1 {N : Int} {μ T : sw_S} (J : sw_J N μ μ) (gT : sw_gs T) (hr : ∀ i j, i ≠ 18 → i ≠ 44 → T i j = μ i j) (hi : ∀ j, j < 60 → T 44 (60 * 1 + j) = T 18 j) (ho : ∀ y, ¬ (60 * 1 ≤ y ∧ y < 60 * 1 + 60) → T 44 y = μ 44 y) : sw_J N T T := by
  have e := sw_rp_2 hr (by decide)
  generalize T 18 = g1 at e hi
  generalize T 44 = g2 at e hi ho
  subst e
  obtain ⟨⟨c, g0, w0, z0⟩, r0, l0, b0, s0⟩ := id J
  obtain ⟨hμ, hD, hV, hL, hpl, hspd, hbr, her, hmg, h61, h514, h513, h59, hro⟩ := id c
  obtain ⟨e0, e1, e10, e11, e12, e16, e17, e18, e19, e20, e32, e33, e39, er⟩ := id w0
  obtain ⟨e3, hz, hzz, hlm⟩ := id z0
  obtain ⟨hA, e2, hf, ⟨e7, hst, hsp⟩, e13⟩ := id r0
  obtain ⟨⟨el0, hl0⟩, ⟨el1, hl1⟩, ⟨ewt, hwt⟩, ⟨ekp, hkp⟩⟩ := id l0
  obtain ⟨efi, t0, t1, t2, t3⟩ := id s0
  have hoo : ∀ y, ¬ (60 * 1 ≤ y ∧ y < 60 * 1 + 60) → (sw_rp (sw_rp μ 18 g1) 44 g2) 44 y = μ 44 y := ho
  exact ⟨⟨⟨gT, hD, hV, hL, hpl, hspd, hbr, her, hmg, h61, h514, h513, h59, hro⟩, gT, ⟨e0, e1, e10, e11, e12, e16, e17, e18, e19, e20, e32, e33, e39, er⟩, ⟨e3, hz, hzz, hlm⟩⟩, ⟨hA, e2, hf, ⟨e7, hst, hsp⟩, e13⟩, ⟨⟨el0, hl0⟩, ⟨el1, hl1⟩, ⟨ewt, hwt⟩, ⟨ekp, hkp⟩⟩, b0, ⟨efi, ⟨⟨t0.1, t0.2.1, t0.2.2.1, t0.2.2.2.1, t0.2.2.2.2.1, fun j hj => by rw [hoo (60 * 0 + j) (by omega)]; exact t0.2.2.2.2.2 j hj⟩, ⟨t1.1, t1.2.1, t1.2.2.1, t1.2.2.2.1, t1.2.2.2.2.1, hi⟩, ⟨t2.1, t2.2.1, t2.2.2.1, t2.2.2.2.1, t2.2.2.2.2.1, fun j hj => by rw [hoo (60 * 2 + j) (by omega)]; exact t2.2.2.2.2.2 j hj⟩, ⟨t3.1, t3.2.1, t3.2.2.1, t3.2.2.2.1, t3.2.2.2.2.1, fun j hj => by rw [hoo (60 * 3 + j) (by omega)]; exact t3.2.2.2.2.2 j hj⟩⟩⟩⟩
theorem sw_J_it2 {N : Int} {μ T : sw_S} (J : sw_J N μ μ) (gT : sw_gs T) (hr : ∀ i j, i ≠ 20 → i ≠ 44 → T i j = μ i j) (hi : ∀ j, j < 60 → T 44 (60 * 2 + j) = T 20 j) (ho : ∀ y, ¬ (60 * 2 ≤ y ∧ y < 60 * 2 + 60) → T 44 y = μ 44 y) : sw_J N T T := by
  have e := sw_rp_2 hr (by decide)
  generalize T 20 = g1 at e hi
  generalize T 44 = g2 at e hi ho
  subst e
  obtain ⟨⟨c, g0, w0, z0⟩, r0, l0, b0, s0⟩ := id J
  obtain ⟨hμ, hD, hV, hL, hpl, hspd, hbr, her, hmg, h61, h514, h513, h59, hro⟩ := id c
  obtain ⟨e0, e1, e10, e11, e12, e16, e17, e18, e19, e20, e32, e33, e39, er⟩ := id w0
  obtain ⟨e3, hz, hzz, hlm⟩ := id z0
  obtain ⟨hA, e2, hf, ⟨e7, hst, hsp⟩, e13⟩ := id r0
  obtain ⟨⟨el0, hl0⟩, ⟨el1, hl1⟩, ⟨ewt, hwt⟩, ⟨ekp, hkp⟩⟩ := id l0
  obtain ⟨efi, t0, t1, t2, t3⟩ := id s0
  have hoo : ∀ y, ¬ (60 * 2 ≤ y ∧ y < 60 * 2 + 60) → (sw_rp (sw_rp μ 20 g1) 44 g2) 44 y = μ 44 y := ho
  exact ⟨⟨⟨gT, hD, hV, hL, hpl, hspd, hbr, her, hmg, h61, h514, h513, h59, hro⟩, gT, ⟨e0, e1, e10, e11, e12, e16, e17, e18, e19, e20, e32, e33, e39, er⟩, ⟨e3, hz, hzz, hlm⟩⟩, ⟨hA, e2, hf, ⟨e7, hst, hsp⟩, e13⟩, ⟨⟨el0, hl0⟩, ⟨el1, hl1⟩, ⟨ewt, hwt⟩, ⟨ekp, hkp⟩⟩, b0, ⟨efi, ⟨⟨t0.1, t0.2.1, t0.2.2.1, t0.2.2.2.1, t0.2.2.2.2.1, fun j hj => by rw [hoo (60 * 0 + j) (by omega)]; exact t0.2.2.2.2.2 j hj⟩, ⟨t1.1, t1.2.1, t1.2.2.1, t1.2.2.2.1, t1.2.2.2.2.1, fun j hj => by rw [hoo (60 * 1 + j) (by omega)]; exact t1.2.2.2.2.2 j hj⟩, ⟨t2.1, t2.2.1, t2.2.2.1, t2.2.2.2.1, t2.2.2.2.2.1, hi⟩, ⟨t3.1, t3.2.1, t3.2.2.1, t3.2.2.2.1, t3.2.2.2.2.1, fun j hj => by rw [hoo (60 * 3 + j) (by omega)]; exact t3.2.2.2.2.2 j hj⟩⟩⟩⟩
theorem sw_J_it3 {N : Int} {μ T : sw_S} (J : sw_J N μ μ) (gT : sw_gs T) (hr : ∀ i j, i ≠ 22 → i ≠ 44 → T i j = μ i j) (hi : ∀ j, j < 60 → T 44 (60 * 3 + j) = T 22 j) (ho : ∀ y, ¬ (60 * 3 ≤ y ∧ y < 60 * 3 + 60) → T 44 y = μ 44 y) : sw_J N T T := by
  have e := sw_rp_2 hr (by decide)
  generalize T 22 = g1 at e hi
  generalize T 44 = g2 at e hi ho
  subst e
  obtain ⟨⟨c, g0, w0, z0⟩, r0, l0, b0, s0⟩ := id J
  obtain ⟨hμ, hD, hV, hL, hpl, hspd, hbr, her, hmg, h61, h514, h513, h59, hro⟩ := id c
  obtain ⟨e0, e1, e10, e11, e12, e16, e17, e18, e19, e20, e32, e33, e39, er⟩ := id w0
  obtain ⟨e3, hz, hzz, hlm⟩ := id z0
  obtain ⟨hA, e2, hf, ⟨e7, hst, hsp⟩, e13⟩ := id r0
  obtain ⟨⟨el0, hl0⟩, ⟨el1, hl1⟩, ⟨ewt, hwt⟩, ⟨ekp, hkp⟩⟩ := id l0
  obtain ⟨efi, t0, t1, t2, t3⟩ := id s0
  have hoo : ∀ y, ¬ (60 * 3 ≤ y ∧ y < 60 * 3 + 60) → (sw_rp (sw_rp μ 22 g1) 44 g2) 44 y = μ 44 y := ho
  exact ⟨⟨⟨gT, hD, hV, hL, hpl, hspd, hbr, her, hmg, h61, h514, h513, h59, hro⟩, gT, ⟨e0, e1, e10, e11, e12, e16, e17, e18, e19, e20, e32, e33, e39, er⟩, ⟨e3, hz, hzz, hlm⟩⟩, ⟨hA, e2, hf, ⟨e7, hst, hsp⟩, e13⟩, ⟨⟨el0, hl0⟩, ⟨el1, hl1⟩, ⟨ewt, hwt⟩, ⟨ekp, hkp⟩⟩, b0, ⟨efi, ⟨⟨t0.1, t0.2.1, t0.2.2.1, t0.2.2.2.1, t0.2.2.2.2.1, fun j hj => by rw [hoo (60 * 0 + j) (by omega)]; exact t0.2.2.2.2.2 j hj⟩, ⟨t1.1, t1.2.1, t1.2.2.1, t1.2.2.2.1, t1.2.2.2.2.1, fun j hj => by rw [hoo (60 * 1 + j) (by omega)]; exact t1.2.2.2.2.2 j hj⟩, ⟨t2.1, t2.2.1, t2.2.2.1, t2.2.2.2.1, t2.2.2.2.2.1, fun j hj => by rw [hoo (60 * 2 + j) (by omega)]; exact t2.2.2.2.2.2 j hj⟩, ⟨t3.1, t3.2.1, t3.2.2.1, t3.2.2.2.1, t3.2.2.2.2.1, hi⟩⟩⟩⟩
theorem st_sheet0 (N : Int) (hN : 0 ≤ N ∧ N ≤ 900000) (σ : sw_S) (J : sw_J N σ σ) (f k : Int) (gf : sw_g f) (gk : sw_g k) : sw_St M_X7_sheet M_X8_sheet [.inl 0, .inl f, .inl k] N σ := by
  obtain ⟨⟨c, g0, w0, z0⟩, r0, l0, b0, s0⟩ := id J
  obtain ⟨hσ, hD, hV, hL, hpl, hspd, hbr, her, hmg, h61, h514, h513, h59, hro⟩ := id c
  obtain ⟨e0, e1, e10, e11, e12, e16, e17, e18, e19, e20, e32, e33, e39, er⟩ := id w0
  obtain ⟨e3, hz, hzz, hlm⟩ := id z0
  obtain ⟨hA, e2, hf, ⟨e7, hst, hsp⟩, e13⟩ := id r0
  obtain ⟨⟨el0, hl0⟩, ⟨el1, hl1⟩, ⟨ewt, hwt⟩, ⟨ekp, hkp⟩⟩ := id l0
  obtain ⟨efi, hsh⟩ := id s0
  obtain ⟨t0, t1, t2, t3⟩ := id hsh
  obtain ⟨x1, x2, x3, x4, x5, x6⟩ := id t0
  have ts : (0 : Int).toNat = 0 := rfl
  have hz4 : ∀ j : Nat, j < 4 → 0 ≤ σ 43 j ∧ σ 43 j ≤ 60 := fun j hj => by
    rcases (by omega : j = 0 ∨ j = 1 ∨ j = 2 ∨ j = 3) with rfl | rfl | rfl | rfl
    · rw [t0.2.2.2.1]; exact t0.2.2.2.2.1
    · rw [t1.2.2.2.1]; exact t1.2.2.2.2.1
    · rw [t2.2.2.2.1]; exact t2.2.2.2.2.1
    · rw [t3.2.2.2.1]; exact t3.2.2.2.2.1
  refine ⟨_, cc_sheet0 σ f k gf gk, fun r1 σ1 q1 => ?_⟩
  refine ⟨_, mm_sheet σ1 0 (by decide) f k gf gk, fun r2 σ2 q2 => ?_⟩
  rw [ts] at q2
  rcases q1 with ⟨h1, h2, h3⟩ | ⟨h1, h2, h3⟩ | ⟨h1, h2, h3⟩
  · rcases q2 with ⟨m1, m2, m3⟩ | ⟨m1, m2, m3⟩ | ⟨m1, m2, m3⟩
    · subst h3; subst m3; exact ⟨_, h2, m2, sw_J_mono (N := N) (by omega) J⟩
    · exfalso; omega
    · exfalso; omega
  · rcases q2 with ⟨m1, m2, m3⟩ | ⟨m1, m2, m3⟩ | ⟨m1, m2, m3⟩
    · exfalso; omega
    · subst h3; subst m3; exact ⟨_, h2, m2, sw_J_mono (N := N) (by omega) ⟨⟨⟨(sw_gs_u (sw_gs_u hσ 0 9 (by decide)) 26 39 (by decide)), hD, hV, hL, hpl, hspd, hbr, her, hmg, h61, h514, h513, h59, hro⟩, (sw_gs_u (sw_gs_u hσ 0 9 (by decide)) 26 39 (by decide)), ⟨e0, e1, e10, e11, e12, e16, e17, e18, e19, e20, e32, e33, e39, er⟩, ⟨e3, hz, hzz, hlm⟩⟩, ⟨hA, e2, hf, ⟨e7, hst, hsp⟩, e13⟩, ⟨⟨el0, hl0⟩, ⟨el1, hl1⟩, ⟨ewt, hwt⟩, ⟨ekp, hkp⟩⟩, b0, ⟨rfl, hsh⟩⟩⟩
    · exfalso; omega
  · rcases q2 with ⟨m1, m2, m3⟩ | ⟨m1, m2, m3⟩ | ⟨m1, m2, m3⟩
    · exfalso; omega
    · exfalso; omega
    · subst h3; subst m3; exact ⟨_, h2, m2, sw_J_mono (N := N) (by omega) ⟨⟨⟨(sw_pg_gs (sw_gs_u (sw_gs_u (sw_gs_u (sw_fl_gs (sw_gs_u (sw_gs_u (sw_gs_u hσ 15 2 gf) 15 3 gk) 15 1 sw_g0) 16 60 sw_g0) 41 0 (by decide)) 42 0 gf) 43 0 gk) 44 (60 * (0 : Int)).toNat 60 (fun _ _ => sw_g0)), hD, hV, hL, hpl, hspd, hbr, her, hmg, h61, h514, h513, h59, hro⟩, (sw_pg_gs (sw_gs_u (sw_gs_u (sw_gs_u (sw_fl_gs (sw_gs_u (sw_gs_u (sw_gs_u hσ 15 2 gf) 15 3 gk) 15 1 sw_g0) 16 60 sw_g0) 41 0 (by decide)) 42 0 gf) 43 0 gk) 44 (60 * (0 : Int)).toNat 60 (fun _ _ => sw_g0)), ⟨e0, e1, e10, e11, e12, e16, e17, e18, e19, e20, e32, e33, e39, er⟩, ⟨e3, hz, hzz, hlm⟩⟩, ⟨hA, e2, hf, ⟨e7, hst, hsp⟩, e13⟩, ⟨⟨el0, hl0⟩, ⟨el1, hl1⟩, ⟨ewt, hwt⟩, ⟨ekp, hkp⟩⟩, b0, ⟨efi, ⟨⟨(show ((1 : Int) = 0 ↔ ¬ (0 : Int) = 0) by decide), rfl, h1.1.1, rfl, by show 0 ≤ k ∧ k ≤ 60; omega, fun j hj => by show (if 44 = 44 ∧ ((60 * (0 : Int)).toNat ≤ 60 * 0 + j ∧ 60 * 0 + j < (60 * (0 : Int)).toNat + 60) then (0 : Int) else σ 44 (60 * 0 + j)) = (if 16 = 16 ∧ j < 60 then 0 else σ 16 j); rw [if_pos (by omega), if_pos (by omega)]⟩, ⟨t1.1, t1.2.1, t1.2.2.1, t1.2.2.2.1, t1.2.2.2.2.1, fun j hj => by show (if 44 = 44 ∧ ((60 * (0 : Int)).toNat ≤ 60 * 1 + j ∧ 60 * 1 + j < (60 * (0 : Int)).toNat + 60) then (0 : Int) else σ 44 (60 * 1 + j)) = σ 18 j; rw [if_neg (by omega)]; exact t1.2.2.2.2.2 j hj⟩, ⟨t2.1, t2.2.1, t2.2.2.1, t2.2.2.2.1, t2.2.2.2.2.1, fun j hj => by show (if 44 = 44 ∧ ((60 * (0 : Int)).toNat ≤ 60 * 2 + j ∧ 60 * 2 + j < (60 * (0 : Int)).toNat + 60) then (0 : Int) else σ 44 (60 * 2 + j)) = σ 20 j; rw [if_neg (by omega)]; exact t2.2.2.2.2.2 j hj⟩, ⟨t3.1, t3.2.1, t3.2.2.1, t3.2.2.2.1, t3.2.2.2.2.1, fun j hj => by show (if 44 = 44 ∧ ((60 * (0 : Int)).toNat ≤ 60 * 3 + j ∧ 60 * 3 + j < (60 * (0 : Int)).toNat + 60) then (0 : Int) else σ 44 (60 * 3 + j)) = σ 22 j; rw [if_neg (by omega)]; exact t3.2.2.2.2.2 j hj⟩⟩⟩⟩⟩
theorem st_lose0 (N : Int) (hN : 0 ≤ N ∧ N ≤ 900000) (σ : sw_S) (J : sw_J N σ σ)  : sw_St M_X7_lose M_X8_lose [.inl 0] N σ := by
  obtain ⟨⟨c, g0, w0, z0⟩, r0, l0, b0, s0⟩ := id J
  obtain ⟨hσ, hD, hV, hL, hpl, hspd, hbr, her, hmg, h61, h514, h513, h59, hro⟩ := id c
  obtain ⟨e0, e1, e10, e11, e12, e16, e17, e18, e19, e20, e32, e33, e39, er⟩ := id w0
  obtain ⟨e3, hz, hzz, hlm⟩ := id z0
  obtain ⟨hA, e2, hf, ⟨e7, hst, hsp⟩, e13⟩ := id r0
  obtain ⟨⟨el0, hl0⟩, ⟨el1, hl1⟩, ⟨ewt, hwt⟩, ⟨ekp, hkp⟩⟩ := id l0
  obtain ⟨efi, hsh⟩ := id s0
  obtain ⟨t0, t1, t2, t3⟩ := id hsh
  obtain ⟨x1, x2, x3, x4, x5, x6⟩ := id t0
  have ts : (0 : Int).toNat = 0 := rfl
  have hz4 : ∀ j : Nat, j < 4 → 0 ≤ σ 43 j ∧ σ 43 j ≤ 60 := fun j hj => by
    rcases (by omega : j = 0 ∨ j = 1 ∨ j = 2 ∨ j = 3) with rfl | rfl | rfl | rfl
    · rw [t0.2.2.2.1]; exact t0.2.2.2.2.1
    · rw [t1.2.2.2.1]; exact t1.2.2.2.2.1
    · rw [t2.2.2.2.1]; exact t2.2.2.2.2.1
    · rw [t3.2.2.2.1]; exact t3.2.2.2.2.1
  refine ⟨_, cc_lose0 σ hσ, fun r1 σ1 q1 => ?_⟩
  rcases q1 with ⟨h1, h2, h3⟩ | ⟨h1, h2, h3⟩
  · have gs1 : sw_gs σ1 := by rw [← h3]; exact sw_gs_u hσ 0 9 (by decide)
    refine ⟨_, mm_lose σ1 gs1 0 (by decide), fun r2 σ2 q2 => ?_⟩
    have k41 : σ1 41 = σ 41 := by subst h3; rfl
    have k43 : σ1 43 = σ 43 := by subst h3; rfl
    rw [ts, k41, k43] at q2
    rcases q2 with ⟨m1, m2, m3⟩ | ⟨m1, m2, m3⟩ | ⟨m1, m2, m3⟩
    · exfalso; omega
    · subst h3; subst m3; exact ⟨_, h2, m2, sw_J_mono (N := N) (by omega) ⟨⟨⟨(sw_gs_u (sw_gs_u hσ 0 9 (by decide)) 26 39 (by decide)), hD, hV, hL, hpl, hspd, hbr, her, hmg, h61, h514, h513, h59, hro⟩, (sw_gs_u (sw_gs_u hσ 0 9 (by decide)) 26 39 (by decide)), ⟨e0, e1, e10, e11, e12, e16, e17, e18, e19, e20, e32, e33, e39, er⟩, ⟨e3, hz, hzz, hlm⟩⟩, ⟨hA, e2, hf, ⟨e7, hst, hsp⟩, e13⟩, ⟨⟨el0, hl0⟩, ⟨el1, hl1⟩, ⟨ewt, hwt⟩, ⟨ekp, hkp⟩⟩, b0, ⟨rfl, hsh⟩⟩⟩
    · exact absurd (x1.mpr h1) m1.2
  · have gs1 : sw_gs σ1 := by rw [← h3]; exact sw_gs_u hσ 15 1 (by decide)
    refine ⟨_, mm_lose σ1 gs1 0 (by decide), fun r2 σ2 q2 => ?_⟩
    have k41 : σ1 41 = σ 41 := by subst h3; rfl
    have k43 : σ1 43 = σ 43 := by subst h3; rfl
    rw [ts, k41, k43] at q2
    rcases q2 with ⟨m1, m2, m3⟩ | ⟨m1, m2, m3⟩ | ⟨m1, m2, m3⟩
    · exfalso; omega
    · exact absurd h1 (x1.mp m1.2)
    · subst h3; subst m3; exact ⟨_, h2, m2.trans (congrArg (fun z : Int => some (Sum.inl z)) x4), sw_J_mono (N := N) (by omega) ⟨⟨⟨(sw_gs_u (sw_gs_u hσ 15 1 (by decide)) 41 0 (by decide)), hD, hV, hL, hpl, hspd, hbr, her, hmg, h61, h514, h513, h59, hro⟩, (sw_gs_u (sw_gs_u hσ 15 1 (by decide)) 41 0 (by decide)), ⟨e0, e1, e10, e11, e12, e16, e17, e18, e19, e20, e32, e33, e39, er⟩, ⟨e3, hz, hzz, hlm⟩⟩, ⟨hA, e2, hf, ⟨e7, hst, hsp⟩, e13⟩, ⟨⟨el0, hl0⟩, ⟨el1, hl1⟩, ⟨ewt, hwt⟩, ⟨ekp, hkp⟩⟩, b0, ⟨efi, ⟨⟨(show ((0 : Int) = 0 ↔ ¬ (1 : Int) = 0) by decide), x2, x3, x4, x5, x6⟩, t1, t2, t3⟩⟩⟩⟩
theorem st_put0 (N : Int) (hN : 0 ≤ N ∧ N ≤ 900000) (σ : sw_S) (J : sw_J N σ σ) (f i v : Int) (gf : sw_g f) (gi : sw_g i) (gv : sw_g v) : sw_St M_X7_put M_X8_put [.inl 0, .inl f, .inl i, .inl v] N σ := by
  obtain ⟨⟨c, g0, w0, z0⟩, r0, l0, b0, s0⟩ := id J
  obtain ⟨hσ, hD, hV, hL, hpl, hspd, hbr, her, hmg, h61, h514, h513, h59, hro⟩ := id c
  obtain ⟨e0, e1, e10, e11, e12, e16, e17, e18, e19, e20, e32, e33, e39, er⟩ := id w0
  obtain ⟨e3, hz, hzz, hlm⟩ := id z0
  obtain ⟨hA, e2, hf, ⟨e7, hst, hsp⟩, e13⟩ := id r0
  obtain ⟨⟨el0, hl0⟩, ⟨el1, hl1⟩, ⟨ewt, hwt⟩, ⟨ekp, hkp⟩⟩ := id l0
  obtain ⟨efi, hsh⟩ := id s0
  obtain ⟨t0, t1, t2, t3⟩ := id hsh
  obtain ⟨x1, x2, x3, x4, x5, x6⟩ := id t0
  have ts : (0 : Int).toNat = 0 := rfl
  have hz4 : ∀ j : Nat, j < 4 → 0 ≤ σ 43 j ∧ σ 43 j ≤ 60 := fun j hj => by
    rcases (by omega : j = 0 ∨ j = 1 ∨ j = 2 ∨ j = 3) with rfl | rfl | rfl | rfl
    · rw [t0.2.2.2.1]; exact t0.2.2.2.2.1
    · rw [t1.2.2.2.1]; exact t1.2.2.2.2.1
    · rw [t2.2.2.2.1]; exact t2.2.2.2.2.1
    · rw [t3.2.2.2.1]; exact t3.2.2.2.2.1
  refine ⟨_, cc_put0 σ hσ x5.1 x5.2 x3 f i v gf gi gv, fun r1 σ1 q1 => ?_⟩
  rcases q1 with ⟨h1, h2, h3⟩ | ⟨h1, wr, ewr, ⟨h2, h3, h4⟩ | ⟨h2, h3, h4⟩⟩
  · subst h3
    refine ⟨_, mm_put σ hσ 0 (by decide) hz4 f i v gf gi gv, fun r2 σ2 q2 => ?_⟩
    rcases q2 with ⟨m1, m2, m3⟩ | ⟨m1, wr2, ew2, q3⟩
    · subst m3; exact ⟨_, h2, m2, sw_J_mono (N := N) (by omega) J⟩
    · exfalso; omega
  · have gw : 0 ≤ wr ∧ wr ≤ 3 := by omega
    · have gs1 : sw_gs σ1 := by rw [← h4]; exact sw_gs_u hσ 0 9 (by omega)
      have k41 : σ1 41 = σ 41 := by subst h4; rfl
      have k42 : σ1 42 = σ 42 := by subst h4; rfl
      have k43 : σ1 43 = σ 43 := by subst h4; rfl
      have k44 : σ1 44 = σ 44 := by subst h4; rfl
      refine ⟨_, mm_put σ1 gs1 0 (by decide) (by rw [k43]; exact hz4) f i v gf gi gv, fun r2 σ2 q2 => ?_⟩
      rw [ts, k41, k42, k43] at q2
      skip
      rcases q2 with ⟨m1, m2, m3⟩ | ⟨m1, wr2, ew2, ⟨m0, m2, m3⟩ | ⟨m0, m2, m3⟩⟩
      · exfalso; omega
      · have ew : wr2 = wr := by omega
        subst ew
        · subst h4; subst m3
          exact ⟨_, h3, m2, sw_J_mono (N := N) (by omega) ⟨⟨⟨(sw_gs_u (sw_gs_u hσ 0 9 (by omega)) 26 39 (by omega)), hD, hV, hL, hpl, hspd, hbr, her, hmg, h61, h514, h513, h59, hro⟩, (sw_gs_u (sw_gs_u hσ 0 9 (by omega)) 26 39 (by omega)), ⟨e0, e1, e10, e11, e12, e16, e17, e18, e19, e20, e32, e33, e39, er⟩, ⟨e3, hz, hzz, hlm⟩⟩, ⟨hA, e2, hf, ⟨e7, hst, hsp⟩, e13⟩, ⟨⟨el0, hl0⟩, ⟨el1, hl1⟩, ⟨ewt, hwt⟩, ⟨ekp, hkp⟩⟩, b0, ⟨rfl, hsh⟩⟩⟩
      · have ew : wr2 = wr := by omega
        subst ew
        exfalso; omega
  · · have gs1 : sw_gs σ1 := by rw [← h4]; exact sw_gs_u hσ 16 _ (sw_cv_g gv)
      have k41 : σ1 41 = σ 41 := by subst h4; rfl
      have k42 : σ1 42 = σ 42 := by subst h4; rfl
      have k43 : σ1 43 = σ 43 := by subst h4; rfl
      have k44 : σ1 44 = σ 44 := by subst h4; rfl
      refine ⟨_, mm_put σ1 gs1 0 (by decide) (by rw [k43]; exact hz4) f i v gf gi gv, fun r2 σ2 q2 => ?_⟩
      rw [ts, k41, k42, k43] at q2
      skip
      rcases q2 with ⟨m1, m2, m3⟩ | ⟨m1, wr2, ew2, ⟨m0, m2, m3⟩ | ⟨m0, m2, m3⟩⟩
      · exfalso; omega
      · have ew : wr2 = wr := by omega
        subst ew
        exfalso; omega
      · have ew : wr2 = wr := by omega
        subst ew
        · have ei : (60 * (0 : Int) + i).toNat = 60 * 0 + i.toNat := by omega
          rw [ei] at m3
          have hr : ∀ p q, p ≠ 16 → p ≠ 44 → σ2 p q = σ p q := fun p q hp hq => by rw [← m3, ← h4, sw_u_row _ _ hq, sw_u_row _ _ hp]
          have gs2 : sw_gs σ2 := by rw [← m3]; exact sw_gs_u gs1 44 _ (sw_cv_g gv)
          have hc : ∀ q, σ2 16 q = (if q = i.toNat then sw_cv (σ 15 2) v else σ 16 q) := fun q => by
            rw [← m3, sw_u_row _ _ (by decide), ← h4]
            show (if 16 = 16 ∧ q = i.toNat then sw_cv (σ 15 2) v else σ 16 q) = _
            by_cases zz : q = i.toNat
            · rw [if_pos ⟨rfl, zz⟩, if_pos zz]
            · rw [if_neg (fun y => zz y.2), if_neg zz]
          have hm : ∀ q, σ2 44 q = (if q = 60 * 0 + i.toNat then sw_cv (σ 15 2) v else σ 44 q) := fun q => by
            rw [← m3, ← h4, x2]
            show (if 44 = 44 ∧ q = 60 * 0 + i.toNat then sw_cv (σ 15 2) v else σ 44 q) = _
            by_cases zz : q = 60 * 0 + i.toNat
            · rw [if_pos ⟨rfl, zz⟩, if_pos zz]
            · rw [if_neg (fun y => zz y.2), if_neg zz]
          refine ⟨_, h3, m2, sw_J_mono (N := N) (by omega) (sw_J_it0 J gs2 hr (fun j hj => ?_) (fun y hy => ?_))⟩
          · rw [hc, hm]
            by_cases zz : j = i.toNat
            · rw [if_pos zz, if_pos (by omega)]
            · rw [if_neg zz, if_neg (by omega)]; exact x6 j hj
          · rw [hm, if_neg (by omega)]
theorem st_get0 (N : Int) (hN : 0 ≤ N ∧ N ≤ 900000) (σ : sw_S) (J : sw_J N σ σ) (f i : Int) (gf : sw_g f) (gi : sw_g i) : sw_St M_X7_get M_X8_get [.inl 0, .inl f, .inl i] N σ := by
  obtain ⟨⟨c, g0, w0, z0⟩, r0, l0, b0, s0⟩ := id J
  obtain ⟨hσ, hD, hV, hL, hpl, hspd, hbr, her, hmg, h61, h514, h513, h59, hro⟩ := id c
  obtain ⟨e0, e1, e10, e11, e12, e16, e17, e18, e19, e20, e32, e33, e39, er⟩ := id w0
  obtain ⟨e3, hz, hzz, hlm⟩ := id z0
  obtain ⟨hA, e2, hf, ⟨e7, hst, hsp⟩, e13⟩ := id r0
  obtain ⟨⟨el0, hl0⟩, ⟨el1, hl1⟩, ⟨ewt, hwt⟩, ⟨ekp, hkp⟩⟩ := id l0
  obtain ⟨efi, hsh⟩ := id s0
  obtain ⟨t0, t1, t2, t3⟩ := id hsh
  obtain ⟨x1, x2, x3, x4, x5, x6⟩ := id t0
  have ts : (0 : Int).toNat = 0 := rfl
  have hz4 : ∀ j : Nat, j < 4 → 0 ≤ σ 43 j ∧ σ 43 j ≤ 60 := fun j hj => by
    rcases (by omega : j = 0 ∨ j = 1 ∨ j = 2 ∨ j = 3) with rfl | rfl | rfl | rfl
    · rw [t0.2.2.2.1]; exact t0.2.2.2.2.1
    · rw [t1.2.2.2.1]; exact t1.2.2.2.2.1
    · rw [t2.2.2.2.1]; exact t2.2.2.2.2.1
    · rw [t3.2.2.2.1]; exact t3.2.2.2.2.1
  refine ⟨_, cc_get0 σ hσ x5.1 x5.2 f i gf gi, fun r1 σ1 q1 => ?_⟩
  rcases q1 with ⟨h1, h2, h3⟩ | ⟨h1, wr, ewr, ⟨h2, h3, h4⟩ | ⟨h2, h3, h4⟩⟩
  · subst h3
    refine ⟨_, mm_get σ hσ 0 (by decide) hz4 f i gf gi, fun r2 σ2 q2 => ?_⟩
    rcases q2 with ⟨m1, m2, m3⟩ | ⟨m1, wr2, ew2, q3⟩
    · subst m3; exact ⟨_, h2, m2, sw_J_mono (N := N) (by omega) J⟩
    · exfalso; omega
  · have gw : 0 ≤ wr ∧ wr ≤ 3 := by omega
    · have gs1 : sw_gs σ1 := by rw [← h4]; exact sw_gs_u hσ 0 9 (by omega)
      have k41 : σ1 41 = σ 41 := by subst h4; rfl
      have k42 : σ1 42 = σ 42 := by subst h4; rfl
      have k43 : σ1 43 = σ 43 := by subst h4; rfl
      have k44 : σ1 44 = σ 44 := by subst h4; rfl
      refine ⟨_, mm_get σ1 gs1 0 (by decide) (by rw [k43]; exact hz4) f i gf gi, fun r2 σ2 q2 => ?_⟩
      rw [ts, k41, k42, k43] at q2
      rw [k44] at q2
      rcases q2 with ⟨m1, m2, m3⟩ | ⟨m1, wr2, ew2, ⟨m0, m2, m3⟩ | ⟨m0, m2, m3⟩⟩
      · exfalso; omega
      · have ew : wr2 = wr := by omega
        subst ew
        · subst h4; subst m3
          exact ⟨_, h3, m2, sw_J_mono (N := N) (by omega) ⟨⟨⟨(sw_gs_u (sw_gs_u hσ 0 9 (by omega)) 26 39 (by omega)), hD, hV, hL, hpl, hspd, hbr, her, hmg, h61, h514, h513, h59, hro⟩, (sw_gs_u (sw_gs_u hσ 0 9 (by omega)) 26 39 (by omega)), ⟨e0, e1, e10, e11, e12, e16, e17, e18, e19, e20, e32, e33, e39, er⟩, ⟨e3, hz, hzz, hlm⟩⟩, ⟨hA, e2, hf, ⟨e7, hst, hsp⟩, e13⟩, ⟨⟨el0, hl0⟩, ⟨el1, hl1⟩, ⟨ewt, hwt⟩, ⟨ekp, hkp⟩⟩, b0, ⟨rfl, hsh⟩⟩⟩
      · have ew : wr2 = wr := by omega
        subst ew
        exfalso; omega
  · · have gs1 : sw_gs σ1 := by rw [← h4]; exact hσ
      have k41 : σ1 41 = σ 41 := by subst h4; rfl
      have k42 : σ1 42 = σ 42 := by subst h4; rfl
      have k43 : σ1 43 = σ 43 := by subst h4; rfl
      have k44 : σ1 44 = σ 44 := by subst h4; rfl
      refine ⟨_, mm_get σ1 gs1 0 (by decide) (by rw [k43]; exact hz4) f i gf gi, fun r2 σ2 q2 => ?_⟩
      rw [ts, k41, k42, k43] at q2
      rw [k44] at q2
      rcases q2 with ⟨m1, m2, m3⟩ | ⟨m1, wr2, ew2, ⟨m0, m2, m3⟩ | ⟨m0, m2, m3⟩⟩
      · exfalso; omega
      · have ew : wr2 = wr := by omega
        subst ew
        exfalso; omega
      · have ew : wr2 = wr := by omega
        subst ew
        · have ei : (60 * (0 : Int) + i).toNat = 60 * 0 + i.toNat := by omega
          rw [ei, x6 _ (by omega)] at m2
          subst h4; subst m3
          exact ⟨_, h3, m2, sw_J_mono (N := N) (by omega) J⟩
theorem st_read0 (N : Int) (hN : 0 ≤ N ∧ N ≤ 900000) (σ : sw_S) (J : sw_J N σ σ)  : sw_St M_X7_read M_X8_read [.inl 0] N σ := by
  obtain ⟨⟨c, g0, w0, z0⟩, r0, l0, b0, s0⟩ := id J
  obtain ⟨hσ, hD, hV, hL, hpl, hspd, hbr, her, hmg, h61, h514, h513, h59, hro⟩ := id c
  obtain ⟨e0, e1, e10, e11, e12, e16, e17, e18, e19, e20, e32, e33, e39, er⟩ := id w0
  obtain ⟨e3, hz, hzz, hlm⟩ := id z0
  obtain ⟨hA, e2, hf, ⟨e7, hst, hsp⟩, e13⟩ := id r0
  obtain ⟨⟨el0, hl0⟩, ⟨el1, hl1⟩, ⟨ewt, hwt⟩, ⟨ekp, hkp⟩⟩ := id l0
  obtain ⟨efi, hsh⟩ := id s0
  obtain ⟨t0, t1, t2, t3⟩ := id hsh
  obtain ⟨x1, x2, x3, x4, x5, x6⟩ := id t0
  have ts : (0 : Int).toNat = 0 := rfl
  have hz4 : ∀ j : Nat, j < 4 → 0 ≤ σ 43 j ∧ σ 43 j ≤ 60 := fun j hj => by
    rcases (by omega : j = 0 ∨ j = 1 ∨ j = 2 ∨ j = 3) with rfl | rfl | rfl | rfl
    · rw [t0.2.2.2.1]; exact t0.2.2.2.2.1
    · rw [t1.2.2.2.1]; exact t1.2.2.2.2.1
    · rw [t2.2.2.2.1]; exact t2.2.2.2.2.1
    · rw [t3.2.2.2.1]; exact t3.2.2.2.2.1
  refine ⟨_, cc_read0 σ hσ x5.1 x5.2, fun r1 σ1 q1 => ?_⟩
  have gr : ∀ (p : Nat → Int) (j : Nat), sw_g (max 0 (min (p j) 99)) := fun p j => by constructor <;> omega
  rcases q1 with ⟨h1, h2, h3⟩ | ⟨h1, h2, h3⟩
  · have gs1 : sw_gs σ1 := by rw [← h3]; exact sw_gs_u hσ 0 9 (by decide)
    have k41 : σ1 41 = σ 41 := by subst h3; rfl
    have k43 : σ1 43 = σ 43 := by subst h3; rfl
    have k44 : σ1 44 = σ 44 := by subst h3; rfl
    refine ⟨_, mm_read σ1 gs1 0 (by decide) (by rw [k43]; exact hz4), fun r2 σ2 q2 => ?_⟩
    rw [ts, k41, k43, k44] at q2
    rcases q2 with ⟨m1, m2, m3⟩ | ⟨m1, m2, m3⟩ | ⟨m1, m2, m3⟩
    · exfalso; omega
    · subst h3; subst m3; exact ⟨_, h2, m2, sw_J_mono (N := N) (by omega) ⟨⟨⟨(sw_gs_u (sw_gs_u hσ 0 9 (by decide)) 26 39 (by decide)), hD, hV, hL, hpl, hspd, hbr, her, hmg, h61, h514, h513, h59, hro⟩, (sw_gs_u (sw_gs_u hσ 0 9 (by decide)) 26 39 (by decide)), ⟨e0, e1, e10, e11, e12, e16, e17, e18, e19, e20, e32, e33, e39, er⟩, ⟨e3, hz, hzz, hlm⟩⟩, ⟨hA, e2, hf, ⟨e7, hst, hsp⟩, e13⟩, ⟨⟨el0, hl0⟩, ⟨el1, hl1⟩, ⟨ewt, hwt⟩, ⟨ekp, hkp⟩⟩, b0, ⟨rfl, hsh⟩⟩⟩
    · exact absurd (x1.mpr h1) m1.2
  · have gs1 : sw_gs σ1 := by rw [← h3]; exact sw_pf_gs hσ 13 _ (fun j _ => gr (σ 16) j)
    have k41 : σ1 41 = σ 41 := by subst h3; rfl
    have k43 : σ1 43 = σ 43 := by subst h3; rfl
    have k44 : σ1 44 = σ 44 := by subst h3; rfl
    refine ⟨_, mm_read σ1 gs1 0 (by decide) (by rw [k43]; exact hz4), fun r2 σ2 q2 => ?_⟩
    rw [ts, k41, k43, k44, x4] at q2
    rcases q2 with ⟨m1, m2, m3⟩ | ⟨m1, m2, m3⟩ | ⟨m1, m2, m3⟩
    · exfalso; omega
    · exact absurd h1 (x1.mp m1.2)
    · have gs2 : sw_gs σ2 := by rw [← m3]; exact sw_pf_gs gs1 40 _ (fun j _ => gr (fun j => σ 44 (60 * (0 : Int) + (j : Int)).toNat) j)
      have bb : sw_jb σ2 σ2 := fun j hj => by
        have e1 : σ2 40 j = (if j < (σ 15 3).toNat then max 0 (min (σ 44 (60 * (0 : Int) + (j : Int)).toNat) 99) else σ 40 j) := by
          rw [← m3, ← h3]
          show (if 40 = 40 ∧ j < (σ 15 3).toNat then max 0 (min (σ 44 (60 * (0 : Int) + (j : Int)).toNat) 99) else σ 40 j) = _
          by_cases zz : j < (σ 15 3).toNat
          · rw [if_pos ⟨rfl, zz⟩, if_pos zz]
          · rw [if_neg (fun y => zz y.2), if_neg zz]
        have e2 : σ2 13 j = (if j < (σ 15 3).toNat then max 0 (min (σ 16 j) 99) else σ 13 j) := by
          rw [← m3, ← h3]
          show (if 13 = 13 ∧ j < (σ 15 3).toNat then max 0 (min (σ 16 j) 99) else σ 13 j) = _
          by_cases zz : j < (σ 15 3).toNat
          · rw [if_pos ⟨rfl, zz⟩, if_pos zz]
          · rw [if_neg (fun y => zz y.2), if_neg zz]
        rw [e1, e2]
        by_cases zz : j < (σ 15 3).toNat
        · rw [if_pos zz, if_pos zz, show (60 * (0 : Int) + (j : Int)).toNat = 60 * 0 + j by omega, x6 j hj]
          exact ⟨rfl, by omega, by omega⟩
        · rw [if_neg zz, if_neg zz]
          exact b0 j hj
      subst h3; subst m3; exact ⟨_, h2, m2, sw_J_mono (N := N) (by omega) ⟨⟨⟨gs2, hD, hV, hL, hpl, hspd, hbr, her, hmg, h61, h514, h513, h59, hro⟩, gs2, ⟨e0, e1, e10, e11, e12, e16, e17, e18, e19, e20, e32, e33, e39, er⟩, ⟨e3, hz, hzz, hlm⟩⟩, ⟨hA, e2, hf, ⟨e7, hst, hsp⟩, e13⟩, ⟨⟨el0, hl0⟩, ⟨el1, hl1⟩, ⟨ewt, hwt⟩, ⟨ekp, hkp⟩⟩, bb, ⟨efi, hsh⟩⟩⟩
theorem st_write0 (N : Int) (hN : 0 ≤ N ∧ N ≤ 900000) (σ : sw_S) (J : sw_J N σ σ) (w : Int) (gw : sw_g w) : sw_St M_X7_write M_X8_write [.inl 0, .inl w] N σ := by
  obtain ⟨⟨c, g0, w0, z0⟩, r0, l0, b0, s0⟩ := id J
  obtain ⟨hσ, hD, hV, hL, hpl, hspd, hbr, her, hmg, h61, h514, h513, h59, hro⟩ := id c
  obtain ⟨e0, e1, e10, e11, e12, e16, e17, e18, e19, e20, e32, e33, e39, er⟩ := id w0
  obtain ⟨e3, hz, hzz, hlm⟩ := id z0
  obtain ⟨hA, e2, hf, ⟨e7, hst, hsp⟩, e13⟩ := id r0
  obtain ⟨⟨el0, hl0⟩, ⟨el1, hl1⟩, ⟨ewt, hwt⟩, ⟨ekp, hkp⟩⟩ := id l0
  obtain ⟨efi, hsh⟩ := id s0
  obtain ⟨t0, t1, t2, t3⟩ := id hsh
  obtain ⟨x1, x2, x3, x4, x5, x6⟩ := id t0
  have ts : (0 : Int).toNat = 0 := rfl
  have hz4 : ∀ j : Nat, j < 4 → 0 ≤ σ 43 j ∧ σ 43 j ≤ 60 := fun j hj => by
    rcases (by omega : j = 0 ∨ j = 1 ∨ j = 2 ∨ j = 3) with rfl | rfl | rfl | rfl
    · rw [t0.2.2.2.1]; exact t0.2.2.2.2.1
    · rw [t1.2.2.2.1]; exact t1.2.2.2.2.1
    · rw [t2.2.2.2.1]; exact t2.2.2.2.2.1
    · rw [t3.2.2.2.1]; exact t3.2.2.2.2.1
  refine ⟨_, cc_write0 σ hσ x5.1 x5.2 x3 (by omega) w gw, fun r1 σ1 q1 => ?_⟩
  rcases q1 with ⟨h1, h2, h3⟩ | ⟨h1, h2, h3⟩ | ⟨h1, h2, h3⟩
  · subst h3
    refine ⟨_, mm_write σ hσ 0 (by decide) hz4 (by omega) w gw, fun r2 σ2 q2 => ?_⟩
    rcases q2 with ⟨m1, m2, m3⟩ | ⟨m1, m2, m3⟩ | ⟨m1, m2, m3⟩
    · subst m3; exact ⟨_, h2, m2, sw_J_mono (N := N) (by omega) J⟩
    · exfalso; omega
    · exfalso; omega
  · have gs1 : sw_gs σ1 := by rw [← h3]; exact sw_gs_u hσ 0 9 (by decide)
    have k26 : σ1 26 = σ 26 := by subst h3; rfl
    have k39 : σ1 39 = σ 39 := by subst h3; rfl
    have k41 : σ1 41 = σ 41 := by subst h3; rfl
    have k42 : σ1 42 = σ 42 := by subst h3; rfl
    have k43 : σ1 43 = σ 43 := by subst h3; rfl
    refine ⟨_, mm_write σ1 gs1 0 (by decide) (by rw [k43]; exact hz4) (by rw [k26]; omega) w gw, fun r2 σ2 q2 => ?_⟩
    rw [ts, k26, k39, k41, k42, k43] at q2
    rcases q2 with ⟨m1, m2, m3⟩ | ⟨m1, m2, m3⟩ | ⟨m1, m2, m3⟩
    · exfalso; omega
    · subst h3; subst m3; exact ⟨_, h2, m2, sw_J_mono (N := N) (by omega) ⟨⟨⟨(sw_gs_u (sw_gs_u hσ 0 9 (by decide)) 26 39 (by decide)), hD, hV, hL, hpl, hspd, hbr, her, hmg, h61, h514, h513, h59, hro⟩, (sw_gs_u (sw_gs_u hσ 0 9 (by decide)) 26 39 (by decide)), ⟨e0, e1, e10, e11, e12, e16, e17, e18, e19, e20, e32, e33, e39, er⟩, ⟨e3, hz, hzz, hlm⟩⟩, ⟨hA, e2, hf, ⟨e7, hst, hsp⟩, e13⟩, ⟨⟨el0, hl0⟩, ⟨el1, hl1⟩, ⟨ewt, hwt⟩, ⟨ekp, hkp⟩⟩, b0, ⟨rfl, hsh⟩⟩⟩
    · exact absurd (x1.mpr h1.2) m1.2
  · have gs1 : sw_gs σ1 := by rw [← h3]; exact sw_pf_gs hσ 16 _ (fun j _ => sw_cv_g (hσ 7 _))
    have k26 : σ1 26 = σ 26 := by subst h3; rfl
    have k39 : σ1 39 = σ 39 := by subst h3; rfl
    have k41 : σ1 41 = σ 41 := by subst h3; rfl
    have k42 : σ1 42 = σ 42 := by subst h3; rfl
    have k43 : σ1 43 = σ 43 := by subst h3; rfl
    refine ⟨_, mm_write σ1 gs1 0 (by decide) (by rw [k43]; exact hz4) (by rw [k26]; omega) w gw, fun r2 σ2 q2 => ?_⟩
    rw [ts, k26, k39, k41, k42, k43, e18, x2, x4] at q2
    rcases q2 with ⟨m1, m2, m3⟩ | ⟨m1, m2, m3⟩ | ⟨m1, m2, m3⟩
    · exfalso; omega
    · exact absurd h1.2 (x1.mp m1.2)
    · have hK : 0 ≤ (min (min (σ 6 1) 40) (σ 15 3)) ∧ (min (min (σ 6 1) 40) (σ 15 3)) ≤ 40 ∧ (min (min (σ 6 1) 40) (σ 15 3)) ≤ 60 ∧ (min (min (σ 6 1) 40) (σ 15 3)) ≤ σ 6 1 := by omega
      generalize (min (min (σ 6 1) 40) (σ 15 3)) = K at h2 h3 m2 m3 hK
      have gs2 : sw_gs σ2 := by rw [← m3]; exact sw_pg_gs gs1 44 _ _ (fun j _ => sw_cv_g (hσ 39 _))
      have hr : ∀ p q, p ≠ 16 → p ≠ 44 → σ2 p q = σ p q := fun p q hp hq => by rw [← m3, sw_pg_row _ _ _ _ hq, ← h3, sw_pf_row _ _ _ hp]
      have hm : ∀ q, σ2 44 q = (if 60 * 0 ≤ q ∧ q < 60 * 0 + K.toNat then sw_cv (σ 15 2) (σ 39 (3 * ((σ 6 1 - K + ((q - 60 * 0 : Nat) : Int)) % 40) + w).toNat) else σ 44 q) := fun q => by
        rw [← m3, ← h3]
        show (if 44 = 44 ∧ (60 * 0 ≤ q ∧ q < 60 * 0 + K.toNat) then sw_cv (σ 15 2) (σ 39 (3 * ((σ 6 1 - K + ((q - 60 * 0 : Nat) : Int)) % 40) + w).toNat) else σ 44 q) = _
        by_cases zz : 60 * 0 ≤ q ∧ q < 60 * 0 + K.toNat
        · rw [if_pos ⟨rfl, zz⟩, if_pos zz]
        · rw [if_neg (fun y => zz y.2), if_neg zz]
      have hc : ∀ q, σ2 16 q = (if q < K.toNat then sw_cv (σ 15 2) (σ 7 ((σ 6 1 - 1 - (K - 1 - (q : Int))) % 40 * 3 + w).toNat) else σ 16 q) := fun q => by
        rw [← m3, sw_pg_row _ _ _ _ (by decide), ← h3]
        show (if 16 = 16 ∧ q < K.toNat then sw_cv (σ 15 2) (σ 7 ((σ 6 1 - 1 - (K - 1 - (q : Int))) % 40 * 3 + w).toNat) else σ 16 q) = _
        by_cases zz : q < K.toNat
        · rw [if_pos ⟨rfl, zz⟩, if_pos zz]
        · rw [if_neg (fun y => zz y.2), if_neg zz]
      refine ⟨_, h2, m2, sw_J_mono (N := N) (by omega) (sw_J_it0 J gs2 hr (fun j hj => ?_) (fun y hy => ?_))⟩
      · rw [hc, hm]
        by_cases zz : j < K.toNat
        · rw [if_pos zz, if_pos (by omega), show 60 * 0 + j - 60 * 0 = j by omega, e39 _ (by omega), show 3 * ((σ 6 1 - K + (j : Int)) % 40) + w = (σ 6 1 - 1 - (K - 1 - (j : Int))) % 40 * 3 + w by rw [show σ 6 1 - 1 - (K - 1 - (j : Int)) = σ 6 1 - K + (j : Int) by omega]; omega]
        · rw [if_neg zz, if_neg (by omega)]; exact x6 j hj
      · rw [hm, if_neg (by omega)]
theorem st_sheet1 (N : Int) (hN : 0 ≤ N ∧ N ≤ 900000) (σ : sw_S) (J : sw_J N σ σ) (f k : Int) (gf : sw_g f) (gk : sw_g k) : sw_St M_X7_sheet M_X8_sheet [.inl 1, .inl f, .inl k] N σ := by
  obtain ⟨⟨c, g0, w0, z0⟩, r0, l0, b0, s0⟩ := id J
  obtain ⟨hσ, hD, hV, hL, hpl, hspd, hbr, her, hmg, h61, h514, h513, h59, hro⟩ := id c
  obtain ⟨e0, e1, e10, e11, e12, e16, e17, e18, e19, e20, e32, e33, e39, er⟩ := id w0
  obtain ⟨e3, hz, hzz, hlm⟩ := id z0
  obtain ⟨hA, e2, hf, ⟨e7, hst, hsp⟩, e13⟩ := id r0
  obtain ⟨⟨el0, hl0⟩, ⟨el1, hl1⟩, ⟨ewt, hwt⟩, ⟨ekp, hkp⟩⟩ := id l0
  obtain ⟨efi, hsh⟩ := id s0
  obtain ⟨t0, t1, t2, t3⟩ := id hsh
  obtain ⟨x1, x2, x3, x4, x5, x6⟩ := id t1
  have ts : (1 : Int).toNat = 1 := rfl
  have hz4 : ∀ j : Nat, j < 4 → 0 ≤ σ 43 j ∧ σ 43 j ≤ 60 := fun j hj => by
    rcases (by omega : j = 0 ∨ j = 1 ∨ j = 2 ∨ j = 3) with rfl | rfl | rfl | rfl
    · rw [t0.2.2.2.1]; exact t0.2.2.2.2.1
    · rw [t1.2.2.2.1]; exact t1.2.2.2.2.1
    · rw [t2.2.2.2.1]; exact t2.2.2.2.2.1
    · rw [t3.2.2.2.1]; exact t3.2.2.2.2.1
  refine ⟨_, cc_sheet1 σ f k gf gk, fun r1 σ1 q1 => ?_⟩
  refine ⟨_, mm_sheet σ1 1 (by decide) f k gf gk, fun r2 σ2 q2 => ?_⟩
  rw [ts] at q2
  rcases q1 with ⟨h1, h2, h3⟩ | ⟨h1, h2, h3⟩ | ⟨h1, h2, h3⟩
  · rcases q2 with ⟨m1, m2, m3⟩ | ⟨m1, m2, m3⟩ | ⟨m1, m2, m3⟩
    · subst h3; subst m3; exact ⟨_, h2, m2, sw_J_mono (N := N) (by omega) J⟩
    · exfalso; omega
    · exfalso; omega
  · rcases q2 with ⟨m1, m2, m3⟩ | ⟨m1, m2, m3⟩ | ⟨m1, m2, m3⟩
    · exfalso; omega
    · subst h3; subst m3; exact ⟨_, h2, m2, sw_J_mono (N := N) (by omega) ⟨⟨⟨(sw_gs_u (sw_gs_u hσ 0 9 (by decide)) 26 39 (by decide)), hD, hV, hL, hpl, hspd, hbr, her, hmg, h61, h514, h513, h59, hro⟩, (sw_gs_u (sw_gs_u hσ 0 9 (by decide)) 26 39 (by decide)), ⟨e0, e1, e10, e11, e12, e16, e17, e18, e19, e20, e32, e33, e39, er⟩, ⟨e3, hz, hzz, hlm⟩⟩, ⟨hA, e2, hf, ⟨e7, hst, hsp⟩, e13⟩, ⟨⟨el0, hl0⟩, ⟨el1, hl1⟩, ⟨ewt, hwt⟩, ⟨ekp, hkp⟩⟩, b0, ⟨rfl, hsh⟩⟩⟩
    · exfalso; omega
  · rcases q2 with ⟨m1, m2, m3⟩ | ⟨m1, m2, m3⟩ | ⟨m1, m2, m3⟩
    · exfalso; omega
    · exfalso; omega
    · subst h3; subst m3; exact ⟨_, h2, m2, sw_J_mono (N := N) (by omega) ⟨⟨⟨(sw_pg_gs (sw_gs_u (sw_gs_u (sw_gs_u (sw_fl_gs (sw_gs_u (sw_gs_u (sw_gs_u hσ 17 2 gf) 17 3 gk) 17 1 sw_g0) 18 60 sw_g0) 41 1 (by decide)) 42 1 gf) 43 1 gk) 44 (60 * (1 : Int)).toNat 60 (fun _ _ => sw_g0)), hD, hV, hL, hpl, hspd, hbr, her, hmg, h61, h514, h513, h59, hro⟩, (sw_pg_gs (sw_gs_u (sw_gs_u (sw_gs_u (sw_fl_gs (sw_gs_u (sw_gs_u (sw_gs_u hσ 17 2 gf) 17 3 gk) 17 1 sw_g0) 18 60 sw_g0) 41 1 (by decide)) 42 1 gf) 43 1 gk) 44 (60 * (1 : Int)).toNat 60 (fun _ _ => sw_g0)), ⟨e0, e1, e10, e11, e12, e16, e17, e18, e19, e20, e32, e33, e39, er⟩, ⟨e3, hz, hzz, hlm⟩⟩, ⟨hA, e2, hf, ⟨e7, hst, hsp⟩, e13⟩, ⟨⟨el0, hl0⟩, ⟨el1, hl1⟩, ⟨ewt, hwt⟩, ⟨ekp, hkp⟩⟩, b0, ⟨efi, ⟨⟨t0.1, t0.2.1, t0.2.2.1, t0.2.2.2.1, t0.2.2.2.2.1, fun j hj => by show (if 44 = 44 ∧ ((60 * (1 : Int)).toNat ≤ 60 * 0 + j ∧ 60 * 0 + j < (60 * (1 : Int)).toNat + 60) then (0 : Int) else σ 44 (60 * 0 + j)) = σ 16 j; rw [if_neg (by omega)]; exact t0.2.2.2.2.2 j hj⟩, ⟨(show ((1 : Int) = 0 ↔ ¬ (0 : Int) = 0) by decide), rfl, h1.1.1, rfl, by show 0 ≤ k ∧ k ≤ 60; omega, fun j hj => by show (if 44 = 44 ∧ ((60 * (1 : Int)).toNat ≤ 60 * 1 + j ∧ 60 * 1 + j < (60 * (1 : Int)).toNat + 60) then (0 : Int) else σ 44 (60 * 1 + j)) = (if 18 = 18 ∧ j < 60 then 0 else σ 18 j); rw [if_pos (by omega), if_pos (by omega)]⟩, ⟨t2.1, t2.2.1, t2.2.2.1, t2.2.2.2.1, t2.2.2.2.2.1, fun j hj => by show (if 44 = 44 ∧ ((60 * (1 : Int)).toNat ≤ 60 * 2 + j ∧ 60 * 2 + j < (60 * (1 : Int)).toNat + 60) then (0 : Int) else σ 44 (60 * 2 + j)) = σ 20 j; rw [if_neg (by omega)]; exact t2.2.2.2.2.2 j hj⟩, ⟨t3.1, t3.2.1, t3.2.2.1, t3.2.2.2.1, t3.2.2.2.2.1, fun j hj => by show (if 44 = 44 ∧ ((60 * (1 : Int)).toNat ≤ 60 * 3 + j ∧ 60 * 3 + j < (60 * (1 : Int)).toNat + 60) then (0 : Int) else σ 44 (60 * 3 + j)) = σ 22 j; rw [if_neg (by omega)]; exact t3.2.2.2.2.2 j hj⟩⟩⟩⟩⟩
theorem st_lose1 (N : Int) (hN : 0 ≤ N ∧ N ≤ 900000) (σ : sw_S) (J : sw_J N σ σ)  : sw_St M_X7_lose M_X8_lose [.inl 1] N σ := by
  obtain ⟨⟨c, g0, w0, z0⟩, r0, l0, b0, s0⟩ := id J
  obtain ⟨hσ, hD, hV, hL, hpl, hspd, hbr, her, hmg, h61, h514, h513, h59, hro⟩ := id c
  obtain ⟨e0, e1, e10, e11, e12, e16, e17, e18, e19, e20, e32, e33, e39, er⟩ := id w0
  obtain ⟨e3, hz, hzz, hlm⟩ := id z0
  obtain ⟨hA, e2, hf, ⟨e7, hst, hsp⟩, e13⟩ := id r0
  obtain ⟨⟨el0, hl0⟩, ⟨el1, hl1⟩, ⟨ewt, hwt⟩, ⟨ekp, hkp⟩⟩ := id l0
  obtain ⟨efi, hsh⟩ := id s0
  obtain ⟨t0, t1, t2, t3⟩ := id hsh
  obtain ⟨x1, x2, x3, x4, x5, x6⟩ := id t1
  have ts : (1 : Int).toNat = 1 := rfl
  have hz4 : ∀ j : Nat, j < 4 → 0 ≤ σ 43 j ∧ σ 43 j ≤ 60 := fun j hj => by
    rcases (by omega : j = 0 ∨ j = 1 ∨ j = 2 ∨ j = 3) with rfl | rfl | rfl | rfl
    · rw [t0.2.2.2.1]; exact t0.2.2.2.2.1
    · rw [t1.2.2.2.1]; exact t1.2.2.2.2.1
    · rw [t2.2.2.2.1]; exact t2.2.2.2.2.1
    · rw [t3.2.2.2.1]; exact t3.2.2.2.2.1
  refine ⟨_, cc_lose1 σ hσ, fun r1 σ1 q1 => ?_⟩
  rcases q1 with ⟨h1, h2, h3⟩ | ⟨h1, h2, h3⟩
  · have gs1 : sw_gs σ1 := by rw [← h3]; exact sw_gs_u hσ 0 9 (by decide)
    refine ⟨_, mm_lose σ1 gs1 1 (by decide), fun r2 σ2 q2 => ?_⟩
    have k41 : σ1 41 = σ 41 := by subst h3; rfl
    have k43 : σ1 43 = σ 43 := by subst h3; rfl
    rw [ts, k41, k43] at q2
    rcases q2 with ⟨m1, m2, m3⟩ | ⟨m1, m2, m3⟩ | ⟨m1, m2, m3⟩
    · exfalso; omega
    · subst h3; subst m3; exact ⟨_, h2, m2, sw_J_mono (N := N) (by omega) ⟨⟨⟨(sw_gs_u (sw_gs_u hσ 0 9 (by decide)) 26 39 (by decide)), hD, hV, hL, hpl, hspd, hbr, her, hmg, h61, h514, h513, h59, hro⟩, (sw_gs_u (sw_gs_u hσ 0 9 (by decide)) 26 39 (by decide)), ⟨e0, e1, e10, e11, e12, e16, e17, e18, e19, e20, e32, e33, e39, er⟩, ⟨e3, hz, hzz, hlm⟩⟩, ⟨hA, e2, hf, ⟨e7, hst, hsp⟩, e13⟩, ⟨⟨el0, hl0⟩, ⟨el1, hl1⟩, ⟨ewt, hwt⟩, ⟨ekp, hkp⟩⟩, b0, ⟨rfl, hsh⟩⟩⟩
    · exact absurd (x1.mpr h1) m1.2
  · have gs1 : sw_gs σ1 := by rw [← h3]; exact sw_gs_u hσ 17 1 (by decide)
    refine ⟨_, mm_lose σ1 gs1 1 (by decide), fun r2 σ2 q2 => ?_⟩
    have k41 : σ1 41 = σ 41 := by subst h3; rfl
    have k43 : σ1 43 = σ 43 := by subst h3; rfl
    rw [ts, k41, k43] at q2
    rcases q2 with ⟨m1, m2, m3⟩ | ⟨m1, m2, m3⟩ | ⟨m1, m2, m3⟩
    · exfalso; omega
    · exact absurd h1 (x1.mp m1.2)
    · subst h3; subst m3; exact ⟨_, h2, m2.trans (congrArg (fun z : Int => some (Sum.inl z)) x4), sw_J_mono (N := N) (by omega) ⟨⟨⟨(sw_gs_u (sw_gs_u hσ 17 1 (by decide)) 41 1 (by decide)), hD, hV, hL, hpl, hspd, hbr, her, hmg, h61, h514, h513, h59, hro⟩, (sw_gs_u (sw_gs_u hσ 17 1 (by decide)) 41 1 (by decide)), ⟨e0, e1, e10, e11, e12, e16, e17, e18, e19, e20, e32, e33, e39, er⟩, ⟨e3, hz, hzz, hlm⟩⟩, ⟨hA, e2, hf, ⟨e7, hst, hsp⟩, e13⟩, ⟨⟨el0, hl0⟩, ⟨el1, hl1⟩, ⟨ewt, hwt⟩, ⟨ekp, hkp⟩⟩, b0, ⟨efi, ⟨t0, ⟨(show ((0 : Int) = 0 ↔ ¬ (1 : Int) = 0) by decide), x2, x3, x4, x5, x6⟩, t2, t3⟩⟩⟩⟩
theorem st_put1 (N : Int) (hN : 0 ≤ N ∧ N ≤ 900000) (σ : sw_S) (J : sw_J N σ σ) (f i v : Int) (gf : sw_g f) (gi : sw_g i) (gv : sw_g v) : sw_St M_X7_put M_X8_put [.inl 1, .inl f, .inl i, .inl v] N σ := by
  obtain ⟨⟨c, g0, w0, z0⟩, r0, l0, b0, s0⟩ := id J
  obtain ⟨hσ, hD, hV, hL, hpl, hspd, hbr, her, hmg, h61, h514, h513, h59, hro⟩ := id c
  obtain ⟨e0, e1, e10, e11, e12, e16, e17, e18, e19, e20, e32, e33, e39, er⟩ := id w0
  obtain ⟨e3, hz, hzz, hlm⟩ := id z0
  obtain ⟨hA, e2, hf, ⟨e7, hst, hsp⟩, e13⟩ := id r0
  obtain ⟨⟨el0, hl0⟩, ⟨el1, hl1⟩, ⟨ewt, hwt⟩, ⟨ekp, hkp⟩⟩ := id l0
  obtain ⟨efi, hsh⟩ := id s0
  obtain ⟨t0, t1, t2, t3⟩ := id hsh
  obtain ⟨x1, x2, x3, x4, x5, x6⟩ := id t1
  have ts : (1 : Int).toNat = 1 := rfl
  have hz4 : ∀ j : Nat, j < 4 → 0 ≤ σ 43 j ∧ σ 43 j ≤ 60 := fun j hj => by
    rcases (by omega : j = 0 ∨ j = 1 ∨ j = 2 ∨ j = 3) with rfl | rfl | rfl | rfl
    · rw [t0.2.2.2.1]; exact t0.2.2.2.2.1
    · rw [t1.2.2.2.1]; exact t1.2.2.2.2.1
    · rw [t2.2.2.2.1]; exact t2.2.2.2.2.1
    · rw [t3.2.2.2.1]; exact t3.2.2.2.2.1
  refine ⟨_, cc_put1 σ hσ x5.1 x5.2 x3 f i v gf gi gv, fun r1 σ1 q1 => ?_⟩
  rcases q1 with ⟨h1, h2, h3⟩ | ⟨h1, wr, ewr, ⟨h2, h3, h4⟩ | ⟨h2, h3, h4⟩⟩
  · subst h3
    refine ⟨_, mm_put σ hσ 1 (by decide) hz4 f i v gf gi gv, fun r2 σ2 q2 => ?_⟩
    rcases q2 with ⟨m1, m2, m3⟩ | ⟨m1, wr2, ew2, q3⟩
    · subst m3; exact ⟨_, h2, m2, sw_J_mono (N := N) (by omega) J⟩
    · exfalso; omega
  · have gw : 0 ≤ wr ∧ wr ≤ 3 := by omega
    · have gs1 : sw_gs σ1 := by rw [← h4]; exact sw_gs_u hσ 0 9 (by omega)
      have k41 : σ1 41 = σ 41 := by subst h4; rfl
      have k42 : σ1 42 = σ 42 := by subst h4; rfl
      have k43 : σ1 43 = σ 43 := by subst h4; rfl
      have k44 : σ1 44 = σ 44 := by subst h4; rfl
      refine ⟨_, mm_put σ1 gs1 1 (by decide) (by rw [k43]; exact hz4) f i v gf gi gv, fun r2 σ2 q2 => ?_⟩
      rw [ts, k41, k42, k43] at q2
      skip
      rcases q2 with ⟨m1, m2, m3⟩ | ⟨m1, wr2, ew2, ⟨m0, m2, m3⟩ | ⟨m0, m2, m3⟩⟩
      · exfalso; omega
      · have ew : wr2 = wr := by omega
        subst ew
        · subst h4; subst m3
          exact ⟨_, h3, m2, sw_J_mono (N := N) (by omega) ⟨⟨⟨(sw_gs_u (sw_gs_u hσ 0 9 (by omega)) 26 39 (by omega)), hD, hV, hL, hpl, hspd, hbr, her, hmg, h61, h514, h513, h59, hro⟩, (sw_gs_u (sw_gs_u hσ 0 9 (by omega)) 26 39 (by omega)), ⟨e0, e1, e10, e11, e12, e16, e17, e18, e19, e20, e32, e33, e39, er⟩, ⟨e3, hz, hzz, hlm⟩⟩, ⟨hA, e2, hf, ⟨e7, hst, hsp⟩, e13⟩, ⟨⟨el0, hl0⟩, ⟨el1, hl1⟩, ⟨ewt, hwt⟩, ⟨ekp, hkp⟩⟩, b0, ⟨rfl, hsh⟩⟩⟩
      · have ew : wr2 = wr := by omega
        subst ew
        exfalso; omega
  · · have gs1 : sw_gs σ1 := by rw [← h4]; exact sw_gs_u hσ 18 _ (sw_cv_g gv)
      have k41 : σ1 41 = σ 41 := by subst h4; rfl
      have k42 : σ1 42 = σ 42 := by subst h4; rfl
      have k43 : σ1 43 = σ 43 := by subst h4; rfl
      have k44 : σ1 44 = σ 44 := by subst h4; rfl
      refine ⟨_, mm_put σ1 gs1 1 (by decide) (by rw [k43]; exact hz4) f i v gf gi gv, fun r2 σ2 q2 => ?_⟩
      rw [ts, k41, k42, k43] at q2
      skip
      rcases q2 with ⟨m1, m2, m3⟩ | ⟨m1, wr2, ew2, ⟨m0, m2, m3⟩ | ⟨m0, m2, m3⟩⟩
      · exfalso; omega
      · have ew : wr2 = wr := by omega
        subst ew
        exfalso; omega
      · have ew : wr2 = wr := by omega
        subst ew
        · have ei : (60 * (1 : Int) + i).toNat = 60 * 1 + i.toNat := by omega
          rw [ei] at m3
          have hr : ∀ p q, p ≠ 18 → p ≠ 44 → σ2 p q = σ p q := fun p q hp hq => by rw [← m3, ← h4, sw_u_row _ _ hq, sw_u_row _ _ hp]
          have gs2 : sw_gs σ2 := by rw [← m3]; exact sw_gs_u gs1 44 _ (sw_cv_g gv)
          have hc : ∀ q, σ2 18 q = (if q = i.toNat then sw_cv (σ 17 2) v else σ 18 q) := fun q => by
            rw [← m3, sw_u_row _ _ (by decide), ← h4]
            show (if 18 = 18 ∧ q = i.toNat then sw_cv (σ 17 2) v else σ 18 q) = _
            by_cases zz : q = i.toNat
            · rw [if_pos ⟨rfl, zz⟩, if_pos zz]
            · rw [if_neg (fun y => zz y.2), if_neg zz]
          have hm : ∀ q, σ2 44 q = (if q = 60 * 1 + i.toNat then sw_cv (σ 17 2) v else σ 44 q) := fun q => by
            rw [← m3, ← h4, x2]
            show (if 44 = 44 ∧ q = 60 * 1 + i.toNat then sw_cv (σ 17 2) v else σ 44 q) = _
            by_cases zz : q = 60 * 1 + i.toNat
            · rw [if_pos ⟨rfl, zz⟩, if_pos zz]
            · rw [if_neg (fun y => zz y.2), if_neg zz]
          refine ⟨_, h3, m2, sw_J_mono (N := N) (by omega) (sw_J_it1 J gs2 hr (fun j hj => ?_) (fun y hy => ?_))⟩
          · rw [hc, hm]
            by_cases zz : j = i.toNat
            · rw [if_pos zz, if_pos (by omega)]
            · rw [if_neg zz, if_neg (by omega)]; exact x6 j hj
          · rw [hm, if_neg (by omega)]
theorem st_get1 (N : Int) (hN : 0 ≤ N ∧ N ≤ 900000) (σ : sw_S) (J : sw_J N σ σ) (f i : Int) (gf : sw_g f) (gi : sw_g i) : sw_St M_X7_get M_X8_get [.inl 1, .inl f, .inl i] N σ := by
  obtain ⟨⟨c, g0, w0, z0⟩, r0, l0, b0, s0⟩ := id J
  obtain ⟨hσ, hD, hV, hL, hpl, hspd, hbr, her, hmg, h61, h514, h513, h59, hro⟩ := id c
  obtain ⟨e0, e1, e10, e11, e12, e16, e17, e18, e19, e20, e32, e33, e39, er⟩ := id w0
  obtain ⟨e3, hz, hzz, hlm⟩ := id z0
  obtain ⟨hA, e2, hf, ⟨e7, hst, hsp⟩, e13⟩ := id r0
  obtain ⟨⟨el0, hl0⟩, ⟨el1, hl1⟩, ⟨ewt, hwt⟩, ⟨ekp, hkp⟩⟩ := id l0
  obtain ⟨efi, hsh⟩ := id s0
  obtain ⟨t0, t1, t2, t3⟩ := id hsh
  obtain ⟨x1, x2, x3, x4, x5, x6⟩ := id t1
  have ts : (1 : Int).toNat = 1 := rfl
  have hz4 : ∀ j : Nat, j < 4 → 0 ≤ σ 43 j ∧ σ 43 j ≤ 60 := fun j hj => by
    rcases (by omega : j = 0 ∨ j = 1 ∨ j = 2 ∨ j = 3) with rfl | rfl | rfl | rfl
    · rw [t0.2.2.2.1]; exact t0.2.2.2.2.1
    · rw [t1.2.2.2.1]; exact t1.2.2.2.2.1
    · rw [t2.2.2.2.1]; exact t2.2.2.2.2.1
    · rw [t3.2.2.2.1]; exact t3.2.2.2.2.1
  refine ⟨_, cc_get1 σ hσ x5.1 x5.2 f i gf gi, fun r1 σ1 q1 => ?_⟩
  rcases q1 with ⟨h1, h2, h3⟩ | ⟨h1, wr, ewr, ⟨h2, h3, h4⟩ | ⟨h2, h3, h4⟩⟩
  · subst h3
    refine ⟨_, mm_get σ hσ 1 (by decide) hz4 f i gf gi, fun r2 σ2 q2 => ?_⟩
    rcases q2 with ⟨m1, m2, m3⟩ | ⟨m1, wr2, ew2, q3⟩
    · subst m3; exact ⟨_, h2, m2, sw_J_mono (N := N) (by omega) J⟩
    · exfalso; omega
  · have gw : 0 ≤ wr ∧ wr ≤ 3 := by omega
    · have gs1 : sw_gs σ1 := by rw [← h4]; exact sw_gs_u hσ 0 9 (by omega)
      have k41 : σ1 41 = σ 41 := by subst h4; rfl
      have k42 : σ1 42 = σ 42 := by subst h4; rfl
      have k43 : σ1 43 = σ 43 := by subst h4; rfl
      have k44 : σ1 44 = σ 44 := by subst h4; rfl
      refine ⟨_, mm_get σ1 gs1 1 (by decide) (by rw [k43]; exact hz4) f i gf gi, fun r2 σ2 q2 => ?_⟩
      rw [ts, k41, k42, k43] at q2
      rw [k44] at q2
      rcases q2 with ⟨m1, m2, m3⟩ | ⟨m1, wr2, ew2, ⟨m0, m2, m3⟩ | ⟨m0, m2, m3⟩⟩
      · exfalso; omega
      · have ew : wr2 = wr := by omega
        subst ew
        · subst h4; subst m3
          exact ⟨_, h3, m2, sw_J_mono (N := N) (by omega) ⟨⟨⟨(sw_gs_u (sw_gs_u hσ 0 9 (by omega)) 26 39 (by omega)), hD, hV, hL, hpl, hspd, hbr, her, hmg, h61, h514, h513, h59, hro⟩, (sw_gs_u (sw_gs_u hσ 0 9 (by omega)) 26 39 (by omega)), ⟨e0, e1, e10, e11, e12, e16, e17, e18, e19, e20, e32, e33, e39, er⟩, ⟨e3, hz, hzz, hlm⟩⟩, ⟨hA, e2, hf, ⟨e7, hst, hsp⟩, e13⟩, ⟨⟨el0, hl0⟩, ⟨el1, hl1⟩, ⟨ewt, hwt⟩, ⟨ekp, hkp⟩⟩, b0, ⟨rfl, hsh⟩⟩⟩
      · have ew : wr2 = wr := by omega
        subst ew
        exfalso; omega
  · · have gs1 : sw_gs σ1 := by rw [← h4]; exact hσ
      have k41 : σ1 41 = σ 41 := by subst h4; rfl
      have k42 : σ1 42 = σ 42 := by subst h4; rfl
      have k43 : σ1 43 = σ 43 := by subst h4; rfl
      have k44 : σ1 44 = σ 44 := by subst h4; rfl
      refine ⟨_, mm_get σ1 gs1 1 (by decide) (by rw [k43]; exact hz4) f i gf gi, fun r2 σ2 q2 => ?_⟩
      rw [ts, k41, k42, k43] at q2
      rw [k44] at q2
      rcases q2 with ⟨m1, m2, m3⟩ | ⟨m1, wr2, ew2, ⟨m0, m2, m3⟩ | ⟨m0, m2, m3⟩⟩
      · exfalso; omega
      · have ew : wr2 = wr := by omega
        subst ew
        exfalso; omega
      · have ew : wr2 = wr := by omega
        subst ew
        · have ei : (60 * (1 : Int) + i).toNat = 60 * 1 + i.toNat := by omega
          rw [ei, x6 _ (by omega)] at m2
          subst h4; subst m3
          exact ⟨_, h3, m2, sw_J_mono (N := N) (by omega) J⟩
theorem st_read1 (N : Int) (hN : 0 ≤ N ∧ N ≤ 900000) (σ : sw_S) (J : sw_J N σ σ)  : sw_St M_X7_read M_X8_read [.inl 1] N σ := by
  obtain ⟨⟨c, g0, w0, z0⟩, r0, l0, b0, s0⟩ := id J
  obtain ⟨hσ, hD, hV, hL, hpl, hspd, hbr, her, hmg, h61, h514, h513, h59, hro⟩ := id c
  obtain ⟨e0, e1, e10, e11, e12, e16, e17, e18, e19, e20, e32, e33, e39, er⟩ := id w0
  obtain ⟨e3, hz, hzz, hlm⟩ := id z0
  obtain ⟨hA, e2, hf, ⟨e7, hst, hsp⟩, e13⟩ := id r0
  obtain ⟨⟨el0, hl0⟩, ⟨el1, hl1⟩, ⟨ewt, hwt⟩, ⟨ekp, hkp⟩⟩ := id l0
  obtain ⟨efi, hsh⟩ := id s0
  obtain ⟨t0, t1, t2, t3⟩ := id hsh
  obtain ⟨x1, x2, x3, x4, x5, x6⟩ := id t1
  have ts : (1 : Int).toNat = 1 := rfl
  have hz4 : ∀ j : Nat, j < 4 → 0 ≤ σ 43 j ∧ σ 43 j ≤ 60 := fun j hj => by
    rcases (by omega : j = 0 ∨ j = 1 ∨ j = 2 ∨ j = 3) with rfl | rfl | rfl | rfl
    · rw [t0.2.2.2.1]; exact t0.2.2.2.2.1
    · rw [t1.2.2.2.1]; exact t1.2.2.2.2.1
    · rw [t2.2.2.2.1]; exact t2.2.2.2.2.1
    · rw [t3.2.2.2.1]; exact t3.2.2.2.2.1
  refine ⟨_, cc_read1 σ hσ x5.1 x5.2, fun r1 σ1 q1 => ?_⟩
  have gr : ∀ (p : Nat → Int) (j : Nat), sw_g (max 0 (min (p j) 99)) := fun p j => by constructor <;> omega
  rcases q1 with ⟨h1, h2, h3⟩ | ⟨h1, h2, h3⟩
  · have gs1 : sw_gs σ1 := by rw [← h3]; exact sw_gs_u hσ 0 9 (by decide)
    have k41 : σ1 41 = σ 41 := by subst h3; rfl
    have k43 : σ1 43 = σ 43 := by subst h3; rfl
    have k44 : σ1 44 = σ 44 := by subst h3; rfl
    refine ⟨_, mm_read σ1 gs1 1 (by decide) (by rw [k43]; exact hz4), fun r2 σ2 q2 => ?_⟩
    rw [ts, k41, k43, k44] at q2
    rcases q2 with ⟨m1, m2, m3⟩ | ⟨m1, m2, m3⟩ | ⟨m1, m2, m3⟩
    · exfalso; omega
    · subst h3; subst m3; exact ⟨_, h2, m2, sw_J_mono (N := N) (by omega) ⟨⟨⟨(sw_gs_u (sw_gs_u hσ 0 9 (by decide)) 26 39 (by decide)), hD, hV, hL, hpl, hspd, hbr, her, hmg, h61, h514, h513, h59, hro⟩, (sw_gs_u (sw_gs_u hσ 0 9 (by decide)) 26 39 (by decide)), ⟨e0, e1, e10, e11, e12, e16, e17, e18, e19, e20, e32, e33, e39, er⟩, ⟨e3, hz, hzz, hlm⟩⟩, ⟨hA, e2, hf, ⟨e7, hst, hsp⟩, e13⟩, ⟨⟨el0, hl0⟩, ⟨el1, hl1⟩, ⟨ewt, hwt⟩, ⟨ekp, hkp⟩⟩, b0, ⟨rfl, hsh⟩⟩⟩
    · exact absurd (x1.mpr h1) m1.2
  · have gs1 : sw_gs σ1 := by rw [← h3]; exact sw_pf_gs hσ 13 _ (fun j _ => gr (σ 18) j)
    have k41 : σ1 41 = σ 41 := by subst h3; rfl
    have k43 : σ1 43 = σ 43 := by subst h3; rfl
    have k44 : σ1 44 = σ 44 := by subst h3; rfl
    refine ⟨_, mm_read σ1 gs1 1 (by decide) (by rw [k43]; exact hz4), fun r2 σ2 q2 => ?_⟩
    rw [ts, k41, k43, k44, x4] at q2
    rcases q2 with ⟨m1, m2, m3⟩ | ⟨m1, m2, m3⟩ | ⟨m1, m2, m3⟩
    · exfalso; omega
    · exact absurd h1 (x1.mp m1.2)
    · have gs2 : sw_gs σ2 := by rw [← m3]; exact sw_pf_gs gs1 40 _ (fun j _ => gr (fun j => σ 44 (60 * (1 : Int) + (j : Int)).toNat) j)
      have bb : sw_jb σ2 σ2 := fun j hj => by
        have e1 : σ2 40 j = (if j < (σ 17 3).toNat then max 0 (min (σ 44 (60 * (1 : Int) + (j : Int)).toNat) 99) else σ 40 j) := by
          rw [← m3, ← h3]
          show (if 40 = 40 ∧ j < (σ 17 3).toNat then max 0 (min (σ 44 (60 * (1 : Int) + (j : Int)).toNat) 99) else σ 40 j) = _
          by_cases zz : j < (σ 17 3).toNat
          · rw [if_pos ⟨rfl, zz⟩, if_pos zz]
          · rw [if_neg (fun y => zz y.2), if_neg zz]
        have e2 : σ2 13 j = (if j < (σ 17 3).toNat then max 0 (min (σ 18 j) 99) else σ 13 j) := by
          rw [← m3, ← h3]
          show (if 13 = 13 ∧ j < (σ 17 3).toNat then max 0 (min (σ 18 j) 99) else σ 13 j) = _
          by_cases zz : j < (σ 17 3).toNat
          · rw [if_pos ⟨rfl, zz⟩, if_pos zz]
          · rw [if_neg (fun y => zz y.2), if_neg zz]
        rw [e1, e2]
        by_cases zz : j < (σ 17 3).toNat
        · rw [if_pos zz, if_pos zz, show (60 * (1 : Int) + (j : Int)).toNat = 60 * 1 + j by omega, x6 j hj]
          exact ⟨rfl, by omega, by omega⟩
        · rw [if_neg zz, if_neg zz]
          exact b0 j hj
      subst h3; subst m3; exact ⟨_, h2, m2, sw_J_mono (N := N) (by omega) ⟨⟨⟨gs2, hD, hV, hL, hpl, hspd, hbr, her, hmg, h61, h514, h513, h59, hro⟩, gs2, ⟨e0, e1, e10, e11, e12, e16, e17, e18, e19, e20, e32, e33, e39, er⟩, ⟨e3, hz, hzz, hlm⟩⟩, ⟨hA, e2, hf, ⟨e7, hst, hsp⟩, e13⟩, ⟨⟨el0, hl0⟩, ⟨el1, hl1⟩, ⟨ewt, hwt⟩, ⟨ekp, hkp⟩⟩, bb, ⟨efi, hsh⟩⟩⟩
theorem st_write1 (N : Int) (hN : 0 ≤ N ∧ N ≤ 900000) (σ : sw_S) (J : sw_J N σ σ) (w : Int) (gw : sw_g w) : sw_St M_X7_write M_X8_write [.inl 1, .inl w] N σ := by
  obtain ⟨⟨c, g0, w0, z0⟩, r0, l0, b0, s0⟩ := id J
  obtain ⟨hσ, hD, hV, hL, hpl, hspd, hbr, her, hmg, h61, h514, h513, h59, hro⟩ := id c
  obtain ⟨e0, e1, e10, e11, e12, e16, e17, e18, e19, e20, e32, e33, e39, er⟩ := id w0
  obtain ⟨e3, hz, hzz, hlm⟩ := id z0
  obtain ⟨hA, e2, hf, ⟨e7, hst, hsp⟩, e13⟩ := id r0
  obtain ⟨⟨el0, hl0⟩, ⟨el1, hl1⟩, ⟨ewt, hwt⟩, ⟨ekp, hkp⟩⟩ := id l0
  obtain ⟨efi, hsh⟩ := id s0
  obtain ⟨t0, t1, t2, t3⟩ := id hsh
  obtain ⟨x1, x2, x3, x4, x5, x6⟩ := id t1
  have ts : (1 : Int).toNat = 1 := rfl
  have hz4 : ∀ j : Nat, j < 4 → 0 ≤ σ 43 j ∧ σ 43 j ≤ 60 := fun j hj => by
    rcases (by omega : j = 0 ∨ j = 1 ∨ j = 2 ∨ j = 3) with rfl | rfl | rfl | rfl
    · rw [t0.2.2.2.1]; exact t0.2.2.2.2.1
    · rw [t1.2.2.2.1]; exact t1.2.2.2.2.1
    · rw [t2.2.2.2.1]; exact t2.2.2.2.2.1
    · rw [t3.2.2.2.1]; exact t3.2.2.2.2.1
  refine ⟨_, cc_write1 σ hσ x5.1 x5.2 x3 (by omega) w gw, fun r1 σ1 q1 => ?_⟩
  rcases q1 with ⟨h1, h2, h3⟩ | ⟨h1, h2, h3⟩ | ⟨h1, h2, h3⟩
  · subst h3
    refine ⟨_, mm_write σ hσ 1 (by decide) hz4 (by omega) w gw, fun r2 σ2 q2 => ?_⟩
    rcases q2 with ⟨m1, m2, m3⟩ | ⟨m1, m2, m3⟩ | ⟨m1, m2, m3⟩
    · subst m3; exact ⟨_, h2, m2, sw_J_mono (N := N) (by omega) J⟩
    · exfalso; omega
    · exfalso; omega
  · have gs1 : sw_gs σ1 := by rw [← h3]; exact sw_gs_u hσ 0 9 (by decide)
    have k26 : σ1 26 = σ 26 := by subst h3; rfl
    have k39 : σ1 39 = σ 39 := by subst h3; rfl
    have k41 : σ1 41 = σ 41 := by subst h3; rfl
    have k42 : σ1 42 = σ 42 := by subst h3; rfl
    have k43 : σ1 43 = σ 43 := by subst h3; rfl
    refine ⟨_, mm_write σ1 gs1 1 (by decide) (by rw [k43]; exact hz4) (by rw [k26]; omega) w gw, fun r2 σ2 q2 => ?_⟩
    rw [ts, k26, k39, k41, k42, k43] at q2
    rcases q2 with ⟨m1, m2, m3⟩ | ⟨m1, m2, m3⟩ | ⟨m1, m2, m3⟩
    · exfalso; omega
    · subst h3; subst m3; exact ⟨_, h2, m2, sw_J_mono (N := N) (by omega) ⟨⟨⟨(sw_gs_u (sw_gs_u hσ 0 9 (by decide)) 26 39 (by decide)), hD, hV, hL, hpl, hspd, hbr, her, hmg, h61, h514, h513, h59, hro⟩, (sw_gs_u (sw_gs_u hσ 0 9 (by decide)) 26 39 (by decide)), ⟨e0, e1, e10, e11, e12, e16, e17, e18, e19, e20, e32, e33, e39, er⟩, ⟨e3, hz, hzz, hlm⟩⟩, ⟨hA, e2, hf, ⟨e7, hst, hsp⟩, e13⟩, ⟨⟨el0, hl0⟩, ⟨el1, hl1⟩, ⟨ewt, hwt⟩, ⟨ekp, hkp⟩⟩, b0, ⟨rfl, hsh⟩⟩⟩
    · exact absurd (x1.mpr h1.2) m1.2
  · have gs1 : sw_gs σ1 := by rw [← h3]; exact sw_pf_gs hσ 18 _ (fun j _ => sw_cv_g (hσ 7 _))
    have k26 : σ1 26 = σ 26 := by subst h3; rfl
    have k39 : σ1 39 = σ 39 := by subst h3; rfl
    have k41 : σ1 41 = σ 41 := by subst h3; rfl
    have k42 : σ1 42 = σ 42 := by subst h3; rfl
    have k43 : σ1 43 = σ 43 := by subst h3; rfl
    refine ⟨_, mm_write σ1 gs1 1 (by decide) (by rw [k43]; exact hz4) (by rw [k26]; omega) w gw, fun r2 σ2 q2 => ?_⟩
    rw [ts, k26, k39, k41, k42, k43, e18, x2, x4] at q2
    rcases q2 with ⟨m1, m2, m3⟩ | ⟨m1, m2, m3⟩ | ⟨m1, m2, m3⟩
    · exfalso; omega
    · exact absurd h1.2 (x1.mp m1.2)
    · have hK : 0 ≤ (min (min (σ 6 1) 40) (σ 17 3)) ∧ (min (min (σ 6 1) 40) (σ 17 3)) ≤ 40 ∧ (min (min (σ 6 1) 40) (σ 17 3)) ≤ 60 ∧ (min (min (σ 6 1) 40) (σ 17 3)) ≤ σ 6 1 := by omega
      generalize (min (min (σ 6 1) 40) (σ 17 3)) = K at h2 h3 m2 m3 hK
      have gs2 : sw_gs σ2 := by rw [← m3]; exact sw_pg_gs gs1 44 _ _ (fun j _ => sw_cv_g (hσ 39 _))
      have hr : ∀ p q, p ≠ 18 → p ≠ 44 → σ2 p q = σ p q := fun p q hp hq => by rw [← m3, sw_pg_row _ _ _ _ hq, ← h3, sw_pf_row _ _ _ hp]
      have hm : ∀ q, σ2 44 q = (if 60 * 1 ≤ q ∧ q < 60 * 1 + K.toNat then sw_cv (σ 17 2) (σ 39 (3 * ((σ 6 1 - K + ((q - 60 * 1 : Nat) : Int)) % 40) + w).toNat) else σ 44 q) := fun q => by
        rw [← m3, ← h3]
        show (if 44 = 44 ∧ (60 * 1 ≤ q ∧ q < 60 * 1 + K.toNat) then sw_cv (σ 17 2) (σ 39 (3 * ((σ 6 1 - K + ((q - 60 * 1 : Nat) : Int)) % 40) + w).toNat) else σ 44 q) = _
        by_cases zz : 60 * 1 ≤ q ∧ q < 60 * 1 + K.toNat
        · rw [if_pos ⟨rfl, zz⟩, if_pos zz]
        · rw [if_neg (fun y => zz y.2), if_neg zz]
      have hc : ∀ q, σ2 18 q = (if q < K.toNat then sw_cv (σ 17 2) (σ 7 ((σ 6 1 - 1 - (K - 1 - (q : Int))) % 40 * 3 + w).toNat) else σ 18 q) := fun q => by
        rw [← m3, sw_pg_row _ _ _ _ (by decide), ← h3]
        show (if 18 = 18 ∧ q < K.toNat then sw_cv (σ 17 2) (σ 7 ((σ 6 1 - 1 - (K - 1 - (q : Int))) % 40 * 3 + w).toNat) else σ 18 q) = _
        by_cases zz : q < K.toNat
        · rw [if_pos ⟨rfl, zz⟩, if_pos zz]
        · rw [if_neg (fun y => zz y.2), if_neg zz]
      refine ⟨_, h2, m2, sw_J_mono (N := N) (by omega) (sw_J_it1 J gs2 hr (fun j hj => ?_) (fun y hy => ?_))⟩
      · rw [hc, hm]
        by_cases zz : j < K.toNat
        · rw [if_pos zz, if_pos (by omega), show 60 * 1 + j - 60 * 1 = j by omega, e39 _ (by omega), show 3 * ((σ 6 1 - K + (j : Int)) % 40) + w = (σ 6 1 - 1 - (K - 1 - (j : Int))) % 40 * 3 + w by rw [show σ 6 1 - 1 - (K - 1 - (j : Int)) = σ 6 1 - K + (j : Int) by omega]; omega]
        · rw [if_neg zz, if_neg (by omega)]; exact x6 j hj
      · rw [hm, if_neg (by omega)]
theorem st_sheet2 (N : Int) (hN : 0 ≤ N ∧ N ≤ 900000) (σ : sw_S) (J : sw_J N σ σ) (f k : Int) (gf : sw_g f) (gk : sw_g k) : sw_St M_X7_sheet M_X8_sheet [.inl 2, .inl f, .inl k] N σ := by
  obtain ⟨⟨c, g0, w0, z0⟩, r0, l0, b0, s0⟩ := id J
  obtain ⟨hσ, hD, hV, hL, hpl, hspd, hbr, her, hmg, h61, h514, h513, h59, hro⟩ := id c
  obtain ⟨e0, e1, e10, e11, e12, e16, e17, e18, e19, e20, e32, e33, e39, er⟩ := id w0
  obtain ⟨e3, hz, hzz, hlm⟩ := id z0
  obtain ⟨hA, e2, hf, ⟨e7, hst, hsp⟩, e13⟩ := id r0
  obtain ⟨⟨el0, hl0⟩, ⟨el1, hl1⟩, ⟨ewt, hwt⟩, ⟨ekp, hkp⟩⟩ := id l0
  obtain ⟨efi, hsh⟩ := id s0
  obtain ⟨t0, t1, t2, t3⟩ := id hsh
  obtain ⟨x1, x2, x3, x4, x5, x6⟩ := id t2
  have ts : (2 : Int).toNat = 2 := rfl
  have hz4 : ∀ j : Nat, j < 4 → 0 ≤ σ 43 j ∧ σ 43 j ≤ 60 := fun j hj => by
    rcases (by omega : j = 0 ∨ j = 1 ∨ j = 2 ∨ j = 3) with rfl | rfl | rfl | rfl
    · rw [t0.2.2.2.1]; exact t0.2.2.2.2.1
    · rw [t1.2.2.2.1]; exact t1.2.2.2.2.1
    · rw [t2.2.2.2.1]; exact t2.2.2.2.2.1
    · rw [t3.2.2.2.1]; exact t3.2.2.2.2.1
  refine ⟨_, cc_sheet2 σ f k gf gk, fun r1 σ1 q1 => ?_⟩
  refine ⟨_, mm_sheet σ1 2 (by decide) f k gf gk, fun r2 σ2 q2 => ?_⟩
  rw [ts] at q2
  rcases q1 with ⟨h1, h2, h3⟩ | ⟨h1, h2, h3⟩ | ⟨h1, h2, h3⟩
  · rcases q2 with ⟨m1, m2, m3⟩ | ⟨m1, m2, m3⟩ | ⟨m1, m2, m3⟩
    · subst h3; subst m3; exact ⟨_, h2, m2, sw_J_mono (N := N) (by omega) J⟩
    · exfalso; omega
    · exfalso; omega
  · rcases q2 with ⟨m1, m2, m3⟩ | ⟨m1, m2, m3⟩ | ⟨m1, m2, m3⟩
    · exfalso; omega
    · subst h3; subst m3; exact ⟨_, h2, m2, sw_J_mono (N := N) (by omega) ⟨⟨⟨(sw_gs_u (sw_gs_u hσ 0 9 (by decide)) 26 39 (by decide)), hD, hV, hL, hpl, hspd, hbr, her, hmg, h61, h514, h513, h59, hro⟩, (sw_gs_u (sw_gs_u hσ 0 9 (by decide)) 26 39 (by decide)), ⟨e0, e1, e10, e11, e12, e16, e17, e18, e19, e20, e32, e33, e39, er⟩, ⟨e3, hz, hzz, hlm⟩⟩, ⟨hA, e2, hf, ⟨e7, hst, hsp⟩, e13⟩, ⟨⟨el0, hl0⟩, ⟨el1, hl1⟩, ⟨ewt, hwt⟩, ⟨ekp, hkp⟩⟩, b0, ⟨rfl, hsh⟩⟩⟩
    · exfalso; omega
  · rcases q2 with ⟨m1, m2, m3⟩ | ⟨m1, m2, m3⟩ | ⟨m1, m2, m3⟩
    · exfalso; omega
    · exfalso; omega
    · subst h3; subst m3; exact ⟨_, h2, m2, sw_J_mono (N := N) (by omega) ⟨⟨⟨(sw_pg_gs (sw_gs_u (sw_gs_u (sw_gs_u (sw_fl_gs (sw_gs_u (sw_gs_u (sw_gs_u hσ 19 2 gf) 19 3 gk) 19 1 sw_g0) 20 60 sw_g0) 41 2 (by decide)) 42 2 gf) 43 2 gk) 44 (60 * (2 : Int)).toNat 60 (fun _ _ => sw_g0)), hD, hV, hL, hpl, hspd, hbr, her, hmg, h61, h514, h513, h59, hro⟩, (sw_pg_gs (sw_gs_u (sw_gs_u (sw_gs_u (sw_fl_gs (sw_gs_u (sw_gs_u (sw_gs_u hσ 19 2 gf) 19 3 gk) 19 1 sw_g0) 20 60 sw_g0) 41 2 (by decide)) 42 2 gf) 43 2 gk) 44 (60 * (2 : Int)).toNat 60 (fun _ _ => sw_g0)), ⟨e0, e1, e10, e11, e12, e16, e17, e18, e19, e20, e32, e33, e39, er⟩, ⟨e3, hz, hzz, hlm⟩⟩, ⟨hA, e2, hf, ⟨e7, hst, hsp⟩, e13⟩, ⟨⟨el0, hl0⟩, ⟨el1, hl1⟩, ⟨ewt, hwt⟩, ⟨ekp, hkp⟩⟩, b0, ⟨efi, ⟨⟨t0.1, t0.2.1, t0.2.2.1, t0.2.2.2.1, t0.2.2.2.2.1, fun j hj => by show (if 44 = 44 ∧ ((60 * (2 : Int)).toNat ≤ 60 * 0 + j ∧ 60 * 0 + j < (60 * (2 : Int)).toNat + 60) then (0 : Int) else σ 44 (60 * 0 + j)) = σ 16 j; rw [if_neg (by omega)]; exact t0.2.2.2.2.2 j hj⟩, ⟨t1.1, t1.2.1, t1.2.2.1, t1.2.2.2.1, t1.2.2.2.2.1, fun j hj => by show (if 44 = 44 ∧ ((60 * (2 : Int)).toNat ≤ 60 * 1 + j ∧ 60 * 1 + j < (60 * (2 : Int)).toNat + 60) then (0 : Int) else σ 44 (60 * 1 + j)) = σ 18 j; rw [if_neg (by omega)]; exact t1.2.2.2.2.2 j hj⟩, ⟨(show ((1 : Int) = 0 ↔ ¬ (0 : Int) = 0) by decide), rfl, h1.1.1, rfl, by show 0 ≤ k ∧ k ≤ 60; omega, fun j hj => by show (if 44 = 44 ∧ ((60 * (2 : Int)).toNat ≤ 60 * 2 + j ∧ 60 * 2 + j < (60 * (2 : Int)).toNat + 60) then (0 : Int) else σ 44 (60 * 2 + j)) = (if 20 = 20 ∧ j < 60 then 0 else σ 20 j); rw [if_pos (by omega), if_pos (by omega)]⟩, ⟨t3.1, t3.2.1, t3.2.2.1, t3.2.2.2.1, t3.2.2.2.2.1, fun j hj => by show (if 44 = 44 ∧ ((60 * (2 : Int)).toNat ≤ 60 * 3 + j ∧ 60 * 3 + j < (60 * (2 : Int)).toNat + 60) then (0 : Int) else σ 44 (60 * 3 + j)) = σ 22 j; rw [if_neg (by omega)]; exact t3.2.2.2.2.2 j hj⟩⟩⟩⟩⟩
theorem st_lose2 (N : Int) (hN : 0 ≤ N ∧ N ≤ 900000) (σ : sw_S) (J : sw_J N σ σ)  : sw_St M_X7_lose M_X8_lose [.inl 2] N σ := by
  obtain ⟨⟨c, g0, w0, z0⟩, r0, l0, b0, s0⟩ := id J
  obtain ⟨hσ, hD, hV, hL, hpl, hspd, hbr, her, hmg, h61, h514, h513, h59, hro⟩ := id c
  obtain ⟨e0, e1, e10, e11, e12, e16, e17, e18, e19, e20, e32, e33, e39, er⟩ := id w0
  obtain ⟨e3, hz, hzz, hlm⟩ := id z0
  obtain ⟨hA, e2, hf, ⟨e7, hst, hsp⟩, e13⟩ := id r0
  obtain ⟨⟨el0, hl0⟩, ⟨el1, hl1⟩, ⟨ewt, hwt⟩, ⟨ekp, hkp⟩⟩ := id l0
  obtain ⟨efi, hsh⟩ := id s0
  obtain ⟨t0, t1, t2, t3⟩ := id hsh
  obtain ⟨x1, x2, x3, x4, x5, x6⟩ := id t2
  have ts : (2 : Int).toNat = 2 := rfl
  have hz4 : ∀ j : Nat, j < 4 → 0 ≤ σ 43 j ∧ σ 43 j ≤ 60 := fun j hj => by
    rcases (by omega : j = 0 ∨ j = 1 ∨ j = 2 ∨ j = 3) with rfl | rfl | rfl | rfl
    · rw [t0.2.2.2.1]; exact t0.2.2.2.2.1
    · rw [t1.2.2.2.1]; exact t1.2.2.2.2.1
    · rw [t2.2.2.2.1]; exact t2.2.2.2.2.1
    · rw [t3.2.2.2.1]; exact t3.2.2.2.2.1
  refine ⟨_, cc_lose2 σ hσ, fun r1 σ1 q1 => ?_⟩
  rcases q1 with ⟨h1, h2, h3⟩ | ⟨h1, h2, h3⟩
  · have gs1 : sw_gs σ1 := by rw [← h3]; exact sw_gs_u hσ 0 9 (by decide)
    refine ⟨_, mm_lose σ1 gs1 2 (by decide), fun r2 σ2 q2 => ?_⟩
    have k41 : σ1 41 = σ 41 := by subst h3; rfl
    have k43 : σ1 43 = σ 43 := by subst h3; rfl
    rw [ts, k41, k43] at q2
    rcases q2 with ⟨m1, m2, m3⟩ | ⟨m1, m2, m3⟩ | ⟨m1, m2, m3⟩
    · exfalso; omega
    · subst h3; subst m3; exact ⟨_, h2, m2, sw_J_mono (N := N) (by omega) ⟨⟨⟨(sw_gs_u (sw_gs_u hσ 0 9 (by decide)) 26 39 (by decide)), hD, hV, hL, hpl, hspd, hbr, her, hmg, h61, h514, h513, h59, hro⟩, (sw_gs_u (sw_gs_u hσ 0 9 (by decide)) 26 39 (by decide)), ⟨e0, e1, e10, e11, e12, e16, e17, e18, e19, e20, e32, e33, e39, er⟩, ⟨e3, hz, hzz, hlm⟩⟩, ⟨hA, e2, hf, ⟨e7, hst, hsp⟩, e13⟩, ⟨⟨el0, hl0⟩, ⟨el1, hl1⟩, ⟨ewt, hwt⟩, ⟨ekp, hkp⟩⟩, b0, ⟨rfl, hsh⟩⟩⟩
    · exact absurd (x1.mpr h1) m1.2
  · have gs1 : sw_gs σ1 := by rw [← h3]; exact sw_gs_u hσ 19 1 (by decide)
    refine ⟨_, mm_lose σ1 gs1 2 (by decide), fun r2 σ2 q2 => ?_⟩
    have k41 : σ1 41 = σ 41 := by subst h3; rfl
    have k43 : σ1 43 = σ 43 := by subst h3; rfl
    rw [ts, k41, k43] at q2
    rcases q2 with ⟨m1, m2, m3⟩ | ⟨m1, m2, m3⟩ | ⟨m1, m2, m3⟩
    · exfalso; omega
    · exact absurd h1 (x1.mp m1.2)
    · subst h3; subst m3; exact ⟨_, h2, m2.trans (congrArg (fun z : Int => some (Sum.inl z)) x4), sw_J_mono (N := N) (by omega) ⟨⟨⟨(sw_gs_u (sw_gs_u hσ 19 1 (by decide)) 41 2 (by decide)), hD, hV, hL, hpl, hspd, hbr, her, hmg, h61, h514, h513, h59, hro⟩, (sw_gs_u (sw_gs_u hσ 19 1 (by decide)) 41 2 (by decide)), ⟨e0, e1, e10, e11, e12, e16, e17, e18, e19, e20, e32, e33, e39, er⟩, ⟨e3, hz, hzz, hlm⟩⟩, ⟨hA, e2, hf, ⟨e7, hst, hsp⟩, e13⟩, ⟨⟨el0, hl0⟩, ⟨el1, hl1⟩, ⟨ewt, hwt⟩, ⟨ekp, hkp⟩⟩, b0, ⟨efi, ⟨t0, t1, ⟨(show ((0 : Int) = 0 ↔ ¬ (1 : Int) = 0) by decide), x2, x3, x4, x5, x6⟩, t3⟩⟩⟩⟩
theorem st_put2 (N : Int) (hN : 0 ≤ N ∧ N ≤ 900000) (σ : sw_S) (J : sw_J N σ σ) (f i v : Int) (gf : sw_g f) (gi : sw_g i) (gv : sw_g v) : sw_St M_X7_put M_X8_put [.inl 2, .inl f, .inl i, .inl v] N σ := by
  obtain ⟨⟨c, g0, w0, z0⟩, r0, l0, b0, s0⟩ := id J
  obtain ⟨hσ, hD, hV, hL, hpl, hspd, hbr, her, hmg, h61, h514, h513, h59, hro⟩ := id c
  obtain ⟨e0, e1, e10, e11, e12, e16, e17, e18, e19, e20, e32, e33, e39, er⟩ := id w0
  obtain ⟨e3, hz, hzz, hlm⟩ := id z0
  obtain ⟨hA, e2, hf, ⟨e7, hst, hsp⟩, e13⟩ := id r0
  obtain ⟨⟨el0, hl0⟩, ⟨el1, hl1⟩, ⟨ewt, hwt⟩, ⟨ekp, hkp⟩⟩ := id l0
  obtain ⟨efi, hsh⟩ := id s0
  obtain ⟨t0, t1, t2, t3⟩ := id hsh
  obtain ⟨x1, x2, x3, x4, x5, x6⟩ := id t2
  have ts : (2 : Int).toNat = 2 := rfl
  have hz4 : ∀ j : Nat, j < 4 → 0 ≤ σ 43 j ∧ σ 43 j ≤ 60 := fun j hj => by
    rcases (by omega : j = 0 ∨ j = 1 ∨ j = 2 ∨ j = 3) with rfl | rfl | rfl | rfl
    · rw [t0.2.2.2.1]; exact t0.2.2.2.2.1
    · rw [t1.2.2.2.1]; exact t1.2.2.2.2.1
    · rw [t2.2.2.2.1]; exact t2.2.2.2.2.1
    · rw [t3.2.2.2.1]; exact t3.2.2.2.2.1
  refine ⟨_, cc_put2 σ hσ x5.1 x5.2 x3 f i v gf gi gv, fun r1 σ1 q1 => ?_⟩
  rcases q1 with ⟨h1, h2, h3⟩ | ⟨h1, wr, ewr, ⟨h2, h3, h4⟩ | ⟨h2, h3, h4⟩⟩
  · subst h3
    refine ⟨_, mm_put σ hσ 2 (by decide) hz4 f i v gf gi gv, fun r2 σ2 q2 => ?_⟩
    rcases q2 with ⟨m1, m2, m3⟩ | ⟨m1, wr2, ew2, q3⟩
    · subst m3; exact ⟨_, h2, m2, sw_J_mono (N := N) (by omega) J⟩
    · exfalso; omega
  · have gw : 0 ≤ wr ∧ wr ≤ 3 := by omega
    · have gs1 : sw_gs σ1 := by rw [← h4]; exact sw_gs_u hσ 0 9 (by omega)
      have k41 : σ1 41 = σ 41 := by subst h4; rfl
      have k42 : σ1 42 = σ 42 := by subst h4; rfl
      have k43 : σ1 43 = σ 43 := by subst h4; rfl
      have k44 : σ1 44 = σ 44 := by subst h4; rfl
      refine ⟨_, mm_put σ1 gs1 2 (by decide) (by rw [k43]; exact hz4) f i v gf gi gv, fun r2 σ2 q2 => ?_⟩
      rw [ts, k41, k42, k43] at q2
      skip
      rcases q2 with ⟨m1, m2, m3⟩ | ⟨m1, wr2, ew2, ⟨m0, m2, m3⟩ | ⟨m0, m2, m3⟩⟩
      · exfalso; omega
      · have ew : wr2 = wr := by omega
        subst ew
        · subst h4; subst m3
          exact ⟨_, h3, m2, sw_J_mono (N := N) (by omega) ⟨⟨⟨(sw_gs_u (sw_gs_u hσ 0 9 (by omega)) 26 39 (by omega)), hD, hV, hL, hpl, hspd, hbr, her, hmg, h61, h514, h513, h59, hro⟩, (sw_gs_u (sw_gs_u hσ 0 9 (by omega)) 26 39 (by omega)), ⟨e0, e1, e10, e11, e12, e16, e17, e18, e19, e20, e32, e33, e39, er⟩, ⟨e3, hz, hzz, hlm⟩⟩, ⟨hA, e2, hf, ⟨e7, hst, hsp⟩, e13⟩, ⟨⟨el0, hl0⟩, ⟨el1, hl1⟩, ⟨ewt, hwt⟩, ⟨ekp, hkp⟩⟩, b0, ⟨rfl, hsh⟩⟩⟩
      · have ew : wr2 = wr := by omega
        subst ew
        exfalso; omega
  · · have gs1 : sw_gs σ1 := by rw [← h4]; exact sw_gs_u hσ 20 _ (sw_cv_g gv)
      have k41 : σ1 41 = σ 41 := by subst h4; rfl
      have k42 : σ1 42 = σ 42 := by subst h4; rfl
      have k43 : σ1 43 = σ 43 := by subst h4; rfl
      have k44 : σ1 44 = σ 44 := by subst h4; rfl
      refine ⟨_, mm_put σ1 gs1 2 (by decide) (by rw [k43]; exact hz4) f i v gf gi gv, fun r2 σ2 q2 => ?_⟩
      rw [ts, k41, k42, k43] at q2
      skip
      rcases q2 with ⟨m1, m2, m3⟩ | ⟨m1, wr2, ew2, ⟨m0, m2, m3⟩ | ⟨m0, m2, m3⟩⟩
      · exfalso; omega
      · have ew : wr2 = wr := by omega
        subst ew
        exfalso; omega
      · have ew : wr2 = wr := by omega
        subst ew
        · have ei : (60 * (2 : Int) + i).toNat = 60 * 2 + i.toNat := by omega
          rw [ei] at m3
          have hr : ∀ p q, p ≠ 20 → p ≠ 44 → σ2 p q = σ p q := fun p q hp hq => by rw [← m3, ← h4, sw_u_row _ _ hq, sw_u_row _ _ hp]
          have gs2 : sw_gs σ2 := by rw [← m3]; exact sw_gs_u gs1 44 _ (sw_cv_g gv)
          have hc : ∀ q, σ2 20 q = (if q = i.toNat then sw_cv (σ 19 2) v else σ 20 q) := fun q => by
            rw [← m3, sw_u_row _ _ (by decide), ← h4]
            show (if 20 = 20 ∧ q = i.toNat then sw_cv (σ 19 2) v else σ 20 q) = _
            by_cases zz : q = i.toNat
            · rw [if_pos ⟨rfl, zz⟩, if_pos zz]
            · rw [if_neg (fun y => zz y.2), if_neg zz]
          have hm : ∀ q, σ2 44 q = (if q = 60 * 2 + i.toNat then sw_cv (σ 19 2) v else σ 44 q) := fun q => by
            rw [← m3, ← h4, x2]
            show (if 44 = 44 ∧ q = 60 * 2 + i.toNat then sw_cv (σ 19 2) v else σ 44 q) = _
            by_cases zz : q = 60 * 2 + i.toNat
            · rw [if_pos ⟨rfl, zz⟩, if_pos zz]
            · rw [if_neg (fun y => zz y.2), if_neg zz]
          refine ⟨_, h3, m2, sw_J_mono (N := N) (by omega) (sw_J_it2 J gs2 hr (fun j hj => ?_) (fun y hy => ?_))⟩
          · rw [hc, hm]
            by_cases zz : j = i.toNat
            · rw [if_pos zz, if_pos (by omega)]
            · rw [if_neg zz, if_neg (by omega)]; exact x6 j hj
          · rw [hm, if_neg (by omega)]
theorem st_get2 (N : Int) (hN : 0 ≤ N ∧ N ≤ 900000) (σ : sw_S) (J : sw_J N σ σ) (f i : Int) (gf : sw_g f) (gi : sw_g i) : sw_St M_X7_get M_X8_get [.inl 2, .inl f, .inl i] N σ := by
  obtain ⟨⟨c, g0, w0, z0⟩, r0, l0, b0, s0⟩ := id J
  obtain ⟨hσ, hD, hV, hL, hpl, hspd, hbr, her, hmg, h61, h514, h513, h59, hro⟩ := id c
  obtain ⟨e0, e1, e10, e11, e12, e16, e17, e18, e19, e20, e32, e33, e39, er⟩ := id w0
  obtain ⟨e3, hz, hzz, hlm⟩ := id z0
  obtain ⟨hA, e2, hf, ⟨e7, hst, hsp⟩, e13⟩ := id r0
  obtain ⟨⟨el0, hl0⟩, ⟨el1, hl1⟩, ⟨ewt, hwt⟩, ⟨ekp, hkp⟩⟩ := id l0
  obtain ⟨efi, hsh⟩ := id s0
  obtain ⟨t0, t1, t2, t3⟩ := id hsh
  obtain ⟨x1, x2, x3, x4, x5, x6⟩ := id t2
  have ts : (2 : Int).toNat = 2 := rfl
  have hz4 : ∀ j : Nat, j < 4 → 0 ≤ σ 43 j ∧ σ 43 j ≤ 60 := fun j hj => by
    rcases (by omega : j = 0 ∨ j = 1 ∨ j = 2 ∨ j = 3) with rfl | rfl | rfl | rfl
    · rw [t0.2.2.2.1]; exact t0.2.2.2.2.1
    · rw [t1.2.2.2.1]; exact t1.2.2.2.2.1
    · rw [t2.2.2.2.1]; exact t2.2.2.2.2.1
    · rw [t3.2.2.2.1]; exact t3.2.2.2.2.1
  refine ⟨_, cc_get2 σ hσ x5.1 x5.2 f i gf gi, fun r1 σ1 q1 => ?_⟩
  rcases q1 with ⟨h1, h2, h3⟩ | ⟨h1, wr, ewr, ⟨h2, h3, h4⟩ | ⟨h2, h3, h4⟩⟩
  · subst h3
    refine ⟨_, mm_get σ hσ 2 (by decide) hz4 f i gf gi, fun r2 σ2 q2 => ?_⟩
    rcases q2 with ⟨m1, m2, m3⟩ | ⟨m1, wr2, ew2, q3⟩
    · subst m3; exact ⟨_, h2, m2, sw_J_mono (N := N) (by omega) J⟩
    · exfalso; omega
  · have gw : 0 ≤ wr ∧ wr ≤ 3 := by omega
    · have gs1 : sw_gs σ1 := by rw [← h4]; exact sw_gs_u hσ 0 9 (by omega)
      have k41 : σ1 41 = σ 41 := by subst h4; rfl
      have k42 : σ1 42 = σ 42 := by subst h4; rfl
      have k43 : σ1 43 = σ 43 := by subst h4; rfl
      have k44 : σ1 44 = σ 44 := by subst h4; rfl
      refine ⟨_, mm_get σ1 gs1 2 (by decide) (by rw [k43]; exact hz4) f i gf gi, fun r2 σ2 q2 => ?_⟩
      rw [ts, k41, k42, k43] at q2
      rw [k44] at q2
      rcases q2 with ⟨m1, m2, m3⟩ | ⟨m1, wr2, ew2, ⟨m0, m2, m3⟩ | ⟨m0, m2, m3⟩⟩
      · exfalso; omega
      · have ew : wr2 = wr := by omega
        subst ew
        · subst h4; subst m3
          exact ⟨_, h3, m2, sw_J_mono (N := N) (by omega) ⟨⟨⟨(sw_gs_u (sw_gs_u hσ 0 9 (by omega)) 26 39 (by omega)), hD, hV, hL, hpl, hspd, hbr, her, hmg, h61, h514, h513, h59, hro⟩, (sw_gs_u (sw_gs_u hσ 0 9 (by omega)) 26 39 (by omega)), ⟨e0, e1, e10, e11, e12, e16, e17, e18, e19, e20, e32, e33, e39, er⟩, ⟨e3, hz, hzz, hlm⟩⟩, ⟨hA, e2, hf, ⟨e7, hst, hsp⟩, e13⟩, ⟨⟨el0, hl0⟩, ⟨el1, hl1⟩, ⟨ewt, hwt⟩, ⟨ekp, hkp⟩⟩, b0, ⟨rfl, hsh⟩⟩⟩
      · have ew : wr2 = wr := by omega
        subst ew
        exfalso; omega
  · · have gs1 : sw_gs σ1 := by rw [← h4]; exact hσ
      have k41 : σ1 41 = σ 41 := by subst h4; rfl
      have k42 : σ1 42 = σ 42 := by subst h4; rfl
      have k43 : σ1 43 = σ 43 := by subst h4; rfl
      have k44 : σ1 44 = σ 44 := by subst h4; rfl
      refine ⟨_, mm_get σ1 gs1 2 (by decide) (by rw [k43]; exact hz4) f i gf gi, fun r2 σ2 q2 => ?_⟩
      rw [ts, k41, k42, k43] at q2
      rw [k44] at q2
      rcases q2 with ⟨m1, m2, m3⟩ | ⟨m1, wr2, ew2, ⟨m0, m2, m3⟩ | ⟨m0, m2, m3⟩⟩
      · exfalso; omega
      · have ew : wr2 = wr := by omega
        subst ew
        exfalso; omega
      · have ew : wr2 = wr := by omega
        subst ew
        · have ei : (60 * (2 : Int) + i).toNat = 60 * 2 + i.toNat := by omega
          rw [ei, x6 _ (by omega)] at m2
          subst h4; subst m3
          exact ⟨_, h3, m2, sw_J_mono (N := N) (by omega) J⟩
theorem st_read2 (N : Int) (hN : 0 ≤ N ∧ N ≤ 900000) (σ : sw_S) (J : sw_J N σ σ)  : sw_St M_X7_read M_X8_read [.inl 2] N σ := by
  obtain ⟨⟨c, g0, w0, z0⟩, r0, l0, b0, s0⟩ := id J
  obtain ⟨hσ, hD, hV, hL, hpl, hspd, hbr, her, hmg, h61, h514, h513, h59, hro⟩ := id c
  obtain ⟨e0, e1, e10, e11, e12, e16, e17, e18, e19, e20, e32, e33, e39, er⟩ := id w0
  obtain ⟨e3, hz, hzz, hlm⟩ := id z0
  obtain ⟨hA, e2, hf, ⟨e7, hst, hsp⟩, e13⟩ := id r0
  obtain ⟨⟨el0, hl0⟩, ⟨el1, hl1⟩, ⟨ewt, hwt⟩, ⟨ekp, hkp⟩⟩ := id l0
  obtain ⟨efi, hsh⟩ := id s0
  obtain ⟨t0, t1, t2, t3⟩ := id hsh
  obtain ⟨x1, x2, x3, x4, x5, x6⟩ := id t2
  have ts : (2 : Int).toNat = 2 := rfl
  have hz4 : ∀ j : Nat, j < 4 → 0 ≤ σ 43 j ∧ σ 43 j ≤ 60 := fun j hj => by
    rcases (by omega : j = 0 ∨ j = 1 ∨ j = 2 ∨ j = 3) with rfl | rfl | rfl | rfl
    · rw [t0.2.2.2.1]; exact t0.2.2.2.2.1
    · rw [t1.2.2.2.1]; exact t1.2.2.2.2.1
    · rw [t2.2.2.2.1]; exact t2.2.2.2.2.1
    · rw [t3.2.2.2.1]; exact t3.2.2.2.2.1
  refine ⟨_, cc_read2 σ hσ x5.1 x5.2, fun r1 σ1 q1 => ?_⟩
  have gr : ∀ (p : Nat → Int) (j : Nat), sw_g (max 0 (min (p j) 99)) := fun p j => by constructor <;> omega
  rcases q1 with ⟨h1, h2, h3⟩ | ⟨h1, h2, h3⟩
  · have gs1 : sw_gs σ1 := by rw [← h3]; exact sw_gs_u hσ 0 9 (by decide)
    have k41 : σ1 41 = σ 41 := by subst h3; rfl
    have k43 : σ1 43 = σ 43 := by subst h3; rfl
    have k44 : σ1 44 = σ 44 := by subst h3; rfl
    refine ⟨_, mm_read σ1 gs1 2 (by decide) (by rw [k43]; exact hz4), fun r2 σ2 q2 => ?_⟩
    rw [ts, k41, k43, k44] at q2
    rcases q2 with ⟨m1, m2, m3⟩ | ⟨m1, m2, m3⟩ | ⟨m1, m2, m3⟩
    · exfalso; omega
    · subst h3; subst m3; exact ⟨_, h2, m2, sw_J_mono (N := N) (by omega) ⟨⟨⟨(sw_gs_u (sw_gs_u hσ 0 9 (by decide)) 26 39 (by decide)), hD, hV, hL, hpl, hspd, hbr, her, hmg, h61, h514, h513, h59, hro⟩, (sw_gs_u (sw_gs_u hσ 0 9 (by decide)) 26 39 (by decide)), ⟨e0, e1, e10, e11, e12, e16, e17, e18, e19, e20, e32, e33, e39, er⟩, ⟨e3, hz, hzz, hlm⟩⟩, ⟨hA, e2, hf, ⟨e7, hst, hsp⟩, e13⟩, ⟨⟨el0, hl0⟩, ⟨el1, hl1⟩, ⟨ewt, hwt⟩, ⟨ekp, hkp⟩⟩, b0, ⟨rfl, hsh⟩⟩⟩
    · exact absurd (x1.mpr h1) m1.2
  · have gs1 : sw_gs σ1 := by rw [← h3]; exact sw_pf_gs hσ 13 _ (fun j _ => gr (σ 20) j)
    have k41 : σ1 41 = σ 41 := by subst h3; rfl
    have k43 : σ1 43 = σ 43 := by subst h3; rfl
    have k44 : σ1 44 = σ 44 := by subst h3; rfl
    refine ⟨_, mm_read σ1 gs1 2 (by decide) (by rw [k43]; exact hz4), fun r2 σ2 q2 => ?_⟩
    rw [ts, k41, k43, k44, x4] at q2
    rcases q2 with ⟨m1, m2, m3⟩ | ⟨m1, m2, m3⟩ | ⟨m1, m2, m3⟩
    · exfalso; omega
    · exact absurd h1 (x1.mp m1.2)
    · have gs2 : sw_gs σ2 := by rw [← m3]; exact sw_pf_gs gs1 40 _ (fun j _ => gr (fun j => σ 44 (60 * (2 : Int) + (j : Int)).toNat) j)
      have bb : sw_jb σ2 σ2 := fun j hj => by
        have e1 : σ2 40 j = (if j < (σ 19 3).toNat then max 0 (min (σ 44 (60 * (2 : Int) + (j : Int)).toNat) 99) else σ 40 j) := by
          rw [← m3, ← h3]
          show (if 40 = 40 ∧ j < (σ 19 3).toNat then max 0 (min (σ 44 (60 * (2 : Int) + (j : Int)).toNat) 99) else σ 40 j) = _
          by_cases zz : j < (σ 19 3).toNat
          · rw [if_pos ⟨rfl, zz⟩, if_pos zz]
          · rw [if_neg (fun y => zz y.2), if_neg zz]
        have e2 : σ2 13 j = (if j < (σ 19 3).toNat then max 0 (min (σ 20 j) 99) else σ 13 j) := by
          rw [← m3, ← h3]
          show (if 13 = 13 ∧ j < (σ 19 3).toNat then max 0 (min (σ 20 j) 99) else σ 13 j) = _
          by_cases zz : j < (σ 19 3).toNat
          · rw [if_pos ⟨rfl, zz⟩, if_pos zz]
          · rw [if_neg (fun y => zz y.2), if_neg zz]
        rw [e1, e2]
        by_cases zz : j < (σ 19 3).toNat
        · rw [if_pos zz, if_pos zz, show (60 * (2 : Int) + (j : Int)).toNat = 60 * 2 + j by omega, x6 j hj]
          exact ⟨rfl, by omega, by omega⟩
        · rw [if_neg zz, if_neg zz]
          exact b0 j hj
      subst h3; subst m3; exact ⟨_, h2, m2, sw_J_mono (N := N) (by omega) ⟨⟨⟨gs2, hD, hV, hL, hpl, hspd, hbr, her, hmg, h61, h514, h513, h59, hro⟩, gs2, ⟨e0, e1, e10, e11, e12, e16, e17, e18, e19, e20, e32, e33, e39, er⟩, ⟨e3, hz, hzz, hlm⟩⟩, ⟨hA, e2, hf, ⟨e7, hst, hsp⟩, e13⟩, ⟨⟨el0, hl0⟩, ⟨el1, hl1⟩, ⟨ewt, hwt⟩, ⟨ekp, hkp⟩⟩, bb, ⟨efi, hsh⟩⟩⟩
theorem st_write2 (N : Int) (hN : 0 ≤ N ∧ N ≤ 900000) (σ : sw_S) (J : sw_J N σ σ) (w : Int) (gw : sw_g w) : sw_St M_X7_write M_X8_write [.inl 2, .inl w] N σ := by
  obtain ⟨⟨c, g0, w0, z0⟩, r0, l0, b0, s0⟩ := id J
  obtain ⟨hσ, hD, hV, hL, hpl, hspd, hbr, her, hmg, h61, h514, h513, h59, hro⟩ := id c
  obtain ⟨e0, e1, e10, e11, e12, e16, e17, e18, e19, e20, e32, e33, e39, er⟩ := id w0
  obtain ⟨e3, hz, hzz, hlm⟩ := id z0
  obtain ⟨hA, e2, hf, ⟨e7, hst, hsp⟩, e13⟩ := id r0
  obtain ⟨⟨el0, hl0⟩, ⟨el1, hl1⟩, ⟨ewt, hwt⟩, ⟨ekp, hkp⟩⟩ := id l0
  obtain ⟨efi, hsh⟩ := id s0
  obtain ⟨t0, t1, t2, t3⟩ := id hsh
  obtain ⟨x1, x2, x3, x4, x5, x6⟩ := id t2
  have ts : (2 : Int).toNat = 2 := rfl
  have hz4 : ∀ j : Nat, j < 4 → 0 ≤ σ 43 j ∧ σ 43 j ≤ 60 := fun j hj => by
    rcases (by omega : j = 0 ∨ j = 1 ∨ j = 2 ∨ j = 3) with rfl | rfl | rfl | rfl
    · rw [t0.2.2.2.1]; exact t0.2.2.2.2.1
    · rw [t1.2.2.2.1]; exact t1.2.2.2.2.1
    · rw [t2.2.2.2.1]; exact t2.2.2.2.2.1
    · rw [t3.2.2.2.1]; exact t3.2.2.2.2.1
  refine ⟨_, cc_write2 σ hσ x5.1 x5.2 x3 (by omega) w gw, fun r1 σ1 q1 => ?_⟩
  rcases q1 with ⟨h1, h2, h3⟩ | ⟨h1, h2, h3⟩ | ⟨h1, h2, h3⟩
  · subst h3
    refine ⟨_, mm_write σ hσ 2 (by decide) hz4 (by omega) w gw, fun r2 σ2 q2 => ?_⟩
    rcases q2 with ⟨m1, m2, m3⟩ | ⟨m1, m2, m3⟩ | ⟨m1, m2, m3⟩
    · subst m3; exact ⟨_, h2, m2, sw_J_mono (N := N) (by omega) J⟩
    · exfalso; omega
    · exfalso; omega
  · have gs1 : sw_gs σ1 := by rw [← h3]; exact sw_gs_u hσ 0 9 (by decide)
    have k26 : σ1 26 = σ 26 := by subst h3; rfl
    have k39 : σ1 39 = σ 39 := by subst h3; rfl
    have k41 : σ1 41 = σ 41 := by subst h3; rfl
    have k42 : σ1 42 = σ 42 := by subst h3; rfl
    have k43 : σ1 43 = σ 43 := by subst h3; rfl
    refine ⟨_, mm_write σ1 gs1 2 (by decide) (by rw [k43]; exact hz4) (by rw [k26]; omega) w gw, fun r2 σ2 q2 => ?_⟩
    rw [ts, k26, k39, k41, k42, k43] at q2
    rcases q2 with ⟨m1, m2, m3⟩ | ⟨m1, m2, m3⟩ | ⟨m1, m2, m3⟩
    · exfalso; omega
    · subst h3; subst m3; exact ⟨_, h2, m2, sw_J_mono (N := N) (by omega) ⟨⟨⟨(sw_gs_u (sw_gs_u hσ 0 9 (by decide)) 26 39 (by decide)), hD, hV, hL, hpl, hspd, hbr, her, hmg, h61, h514, h513, h59, hro⟩, (sw_gs_u (sw_gs_u hσ 0 9 (by decide)) 26 39 (by decide)), ⟨e0, e1, e10, e11, e12, e16, e17, e18, e19, e20, e32, e33, e39, er⟩, ⟨e3, hz, hzz, hlm⟩⟩, ⟨hA, e2, hf, ⟨e7, hst, hsp⟩, e13⟩, ⟨⟨el0, hl0⟩, ⟨el1, hl1⟩, ⟨ewt, hwt⟩, ⟨ekp, hkp⟩⟩, b0, ⟨rfl, hsh⟩⟩⟩
    · exact absurd (x1.mpr h1.2) m1.2
  · have gs1 : sw_gs σ1 := by rw [← h3]; exact sw_pf_gs hσ 20 _ (fun j _ => sw_cv_g (hσ 7 _))
    have k26 : σ1 26 = σ 26 := by subst h3; rfl
    have k39 : σ1 39 = σ 39 := by subst h3; rfl
    have k41 : σ1 41 = σ 41 := by subst h3; rfl
    have k42 : σ1 42 = σ 42 := by subst h3; rfl
    have k43 : σ1 43 = σ 43 := by subst h3; rfl
    refine ⟨_, mm_write σ1 gs1 2 (by decide) (by rw [k43]; exact hz4) (by rw [k26]; omega) w gw, fun r2 σ2 q2 => ?_⟩
    rw [ts, k26, k39, k41, k42, k43, e18, x2, x4] at q2
    rcases q2 with ⟨m1, m2, m3⟩ | ⟨m1, m2, m3⟩ | ⟨m1, m2, m3⟩
    · exfalso; omega
    · exact absurd h1.2 (x1.mp m1.2)
    · have hK : 0 ≤ (min (min (σ 6 1) 40) (σ 19 3)) ∧ (min (min (σ 6 1) 40) (σ 19 3)) ≤ 40 ∧ (min (min (σ 6 1) 40) (σ 19 3)) ≤ 60 ∧ (min (min (σ 6 1) 40) (σ 19 3)) ≤ σ 6 1 := by omega
      generalize (min (min (σ 6 1) 40) (σ 19 3)) = K at h2 h3 m2 m3 hK
      have gs2 : sw_gs σ2 := by rw [← m3]; exact sw_pg_gs gs1 44 _ _ (fun j _ => sw_cv_g (hσ 39 _))
      have hr : ∀ p q, p ≠ 20 → p ≠ 44 → σ2 p q = σ p q := fun p q hp hq => by rw [← m3, sw_pg_row _ _ _ _ hq, ← h3, sw_pf_row _ _ _ hp]
      have hm : ∀ q, σ2 44 q = (if 60 * 2 ≤ q ∧ q < 60 * 2 + K.toNat then sw_cv (σ 19 2) (σ 39 (3 * ((σ 6 1 - K + ((q - 60 * 2 : Nat) : Int)) % 40) + w).toNat) else σ 44 q) := fun q => by
        rw [← m3, ← h3]
        show (if 44 = 44 ∧ (60 * 2 ≤ q ∧ q < 60 * 2 + K.toNat) then sw_cv (σ 19 2) (σ 39 (3 * ((σ 6 1 - K + ((q - 60 * 2 : Nat) : Int)) % 40) + w).toNat) else σ 44 q) = _
        by_cases zz : 60 * 2 ≤ q ∧ q < 60 * 2 + K.toNat
        · rw [if_pos ⟨rfl, zz⟩, if_pos zz]
        · rw [if_neg (fun y => zz y.2), if_neg zz]
      have hc : ∀ q, σ2 20 q = (if q < K.toNat then sw_cv (σ 19 2) (σ 7 ((σ 6 1 - 1 - (K - 1 - (q : Int))) % 40 * 3 + w).toNat) else σ 20 q) := fun q => by
        rw [← m3, sw_pg_row _ _ _ _ (by decide), ← h3]
        show (if 20 = 20 ∧ q < K.toNat then sw_cv (σ 19 2) (σ 7 ((σ 6 1 - 1 - (K - 1 - (q : Int))) % 40 * 3 + w).toNat) else σ 20 q) = _
        by_cases zz : q < K.toNat
        · rw [if_pos ⟨rfl, zz⟩, if_pos zz]
        · rw [if_neg (fun y => zz y.2), if_neg zz]
      refine ⟨_, h2, m2, sw_J_mono (N := N) (by omega) (sw_J_it2 J gs2 hr (fun j hj => ?_) (fun y hy => ?_))⟩
      · rw [hc, hm]
        by_cases zz : j < K.toNat
        · rw [if_pos zz, if_pos (by omega), show 60 * 2 + j - 60 * 2 = j by omega, e39 _ (by omega), show 3 * ((σ 6 1 - K + (j : Int)) % 40) + w = (σ 6 1 - 1 - (K - 1 - (j : Int))) % 40 * 3 + w by rw [show σ 6 1 - 1 - (K - 1 - (j : Int)) = σ 6 1 - K + (j : Int) by omega]; omega]
        · rw [if_neg zz, if_neg (by omega)]; exact x6 j hj
      · rw [hm, if_neg (by omega)]
theorem st_sheet3 (N : Int) (hN : 0 ≤ N ∧ N ≤ 900000) (σ : sw_S) (J : sw_J N σ σ) (f k : Int) (gf : sw_g f) (gk : sw_g k) : sw_St M_X7_sheet M_X8_sheet [.inl 3, .inl f, .inl k] N σ := by
  obtain ⟨⟨c, g0, w0, z0⟩, r0, l0, b0, s0⟩ := id J
  obtain ⟨hσ, hD, hV, hL, hpl, hspd, hbr, her, hmg, h61, h514, h513, h59, hro⟩ := id c
  obtain ⟨e0, e1, e10, e11, e12, e16, e17, e18, e19, e20, e32, e33, e39, er⟩ := id w0
  obtain ⟨e3, hz, hzz, hlm⟩ := id z0
  obtain ⟨hA, e2, hf, ⟨e7, hst, hsp⟩, e13⟩ := id r0
  obtain ⟨⟨el0, hl0⟩, ⟨el1, hl1⟩, ⟨ewt, hwt⟩, ⟨ekp, hkp⟩⟩ := id l0
  obtain ⟨efi, hsh⟩ := id s0
  obtain ⟨t0, t1, t2, t3⟩ := id hsh
  obtain ⟨x1, x2, x3, x4, x5, x6⟩ := id t3
  have ts : (3 : Int).toNat = 3 := rfl
  have hz4 : ∀ j : Nat, j < 4 → 0 ≤ σ 43 j ∧ σ 43 j ≤ 60 := fun j hj => by
    rcases (by omega : j = 0 ∨ j = 1 ∨ j = 2 ∨ j = 3) with rfl | rfl | rfl | rfl
    · rw [t0.2.2.2.1]; exact t0.2.2.2.2.1
    · rw [t1.2.2.2.1]; exact t1.2.2.2.2.1
    · rw [t2.2.2.2.1]; exact t2.2.2.2.2.1
    · rw [t3.2.2.2.1]; exact t3.2.2.2.2.1
  refine ⟨_, cc_sheet3 σ f k gf gk, fun r1 σ1 q1 => ?_⟩
  refine ⟨_, mm_sheet σ1 3 (by decide) f k gf gk, fun r2 σ2 q2 => ?_⟩
  rw [ts] at q2
  rcases q1 with ⟨h1, h2, h3⟩ | ⟨h1, h2, h3⟩ | ⟨h1, h2, h3⟩
  · rcases q2 with ⟨m1, m2, m3⟩ | ⟨m1, m2, m3⟩ | ⟨m1, m2, m3⟩
    · subst h3; subst m3; exact ⟨_, h2, m2, sw_J_mono (N := N) (by omega) J⟩
    · exfalso; omega
    · exfalso; omega
  · rcases q2 with ⟨m1, m2, m3⟩ | ⟨m1, m2, m3⟩ | ⟨m1, m2, m3⟩
    · exfalso; omega
    · subst h3; subst m3; exact ⟨_, h2, m2, sw_J_mono (N := N) (by omega) ⟨⟨⟨(sw_gs_u (sw_gs_u hσ 0 9 (by decide)) 26 39 (by decide)), hD, hV, hL, hpl, hspd, hbr, her, hmg, h61, h514, h513, h59, hro⟩, (sw_gs_u (sw_gs_u hσ 0 9 (by decide)) 26 39 (by decide)), ⟨e0, e1, e10, e11, e12, e16, e17, e18, e19, e20, e32, e33, e39, er⟩, ⟨e3, hz, hzz, hlm⟩⟩, ⟨hA, e2, hf, ⟨e7, hst, hsp⟩, e13⟩, ⟨⟨el0, hl0⟩, ⟨el1, hl1⟩, ⟨ewt, hwt⟩, ⟨ekp, hkp⟩⟩, b0, ⟨rfl, hsh⟩⟩⟩
    · exfalso; omega
  · rcases q2 with ⟨m1, m2, m3⟩ | ⟨m1, m2, m3⟩ | ⟨m1, m2, m3⟩
    · exfalso; omega
    · exfalso; omega
    · subst h3; subst m3; exact ⟨_, h2, m2, sw_J_mono (N := N) (by omega) ⟨⟨⟨(sw_pg_gs (sw_gs_u (sw_gs_u (sw_gs_u (sw_fl_gs (sw_gs_u (sw_gs_u (sw_gs_u hσ 21 2 gf) 21 3 gk) 21 1 sw_g0) 22 60 sw_g0) 41 3 (by decide)) 42 3 gf) 43 3 gk) 44 (60 * (3 : Int)).toNat 60 (fun _ _ => sw_g0)), hD, hV, hL, hpl, hspd, hbr, her, hmg, h61, h514, h513, h59, hro⟩, (sw_pg_gs (sw_gs_u (sw_gs_u (sw_gs_u (sw_fl_gs (sw_gs_u (sw_gs_u (sw_gs_u hσ 21 2 gf) 21 3 gk) 21 1 sw_g0) 22 60 sw_g0) 41 3 (by decide)) 42 3 gf) 43 3 gk) 44 (60 * (3 : Int)).toNat 60 (fun _ _ => sw_g0)), ⟨e0, e1, e10, e11, e12, e16, e17, e18, e19, e20, e32, e33, e39, er⟩, ⟨e3, hz, hzz, hlm⟩⟩, ⟨hA, e2, hf, ⟨e7, hst, hsp⟩, e13⟩, ⟨⟨el0, hl0⟩, ⟨el1, hl1⟩, ⟨ewt, hwt⟩, ⟨ekp, hkp⟩⟩, b0, ⟨efi, ⟨⟨t0.1, t0.2.1, t0.2.2.1, t0.2.2.2.1, t0.2.2.2.2.1, fun j hj => by show (if 44 = 44 ∧ ((60 * (3 : Int)).toNat ≤ 60 * 0 + j ∧ 60 * 0 + j < (60 * (3 : Int)).toNat + 60) then (0 : Int) else σ 44 (60 * 0 + j)) = σ 16 j; rw [if_neg (by omega)]; exact t0.2.2.2.2.2 j hj⟩, ⟨t1.1, t1.2.1, t1.2.2.1, t1.2.2.2.1, t1.2.2.2.2.1, fun j hj => by show (if 44 = 44 ∧ ((60 * (3 : Int)).toNat ≤ 60 * 1 + j ∧ 60 * 1 + j < (60 * (3 : Int)).toNat + 60) then (0 : Int) else σ 44 (60 * 1 + j)) = σ 18 j; rw [if_neg (by omega)]; exact t1.2.2.2.2.2 j hj⟩, ⟨t2.1, t2.2.1, t2.2.2.1, t2.2.2.2.1, t2.2.2.2.2.1, fun j hj => by show (if 44 = 44 ∧ ((60 * (3 : Int)).toNat ≤ 60 * 2 + j ∧ 60 * 2 + j < (60 * (3 : Int)).toNat + 60) then (0 : Int) else σ 44 (60 * 2 + j)) = σ 20 j; rw [if_neg (by omega)]; exact t2.2.2.2.2.2 j hj⟩, ⟨(show ((1 : Int) = 0 ↔ ¬ (0 : Int) = 0) by decide), rfl, h1.1.1, rfl, by show 0 ≤ k ∧ k ≤ 60; omega, fun j hj => by show (if 44 = 44 ∧ ((60 * (3 : Int)).toNat ≤ 60 * 3 + j ∧ 60 * 3 + j < (60 * (3 : Int)).toNat + 60) then (0 : Int) else σ 44 (60 * 3 + j)) = (if 22 = 22 ∧ j < 60 then 0 else σ 22 j); rw [if_pos (by omega), if_pos (by omega)]⟩⟩⟩⟩⟩
theorem st_lose3 (N : Int) (hN : 0 ≤ N ∧ N ≤ 900000) (σ : sw_S) (J : sw_J N σ σ)  : sw_St M_X7_lose M_X8_lose [.inl 3] N σ := by
  obtain ⟨⟨c, g0, w0, z0⟩, r0, l0, b0, s0⟩ := id J
  obtain ⟨hσ, hD, hV, hL, hpl, hspd, hbr, her, hmg, h61, h514, h513, h59, hro⟩ := id c
  obtain ⟨e0, e1, e10, e11, e12, e16, e17, e18, e19, e20, e32, e33, e39, er⟩ := id w0
  obtain ⟨e3, hz, hzz, hlm⟩ := id z0
  obtain ⟨hA, e2, hf, ⟨e7, hst, hsp⟩, e13⟩ := id r0
  obtain ⟨⟨el0, hl0⟩, ⟨el1, hl1⟩, ⟨ewt, hwt⟩, ⟨ekp, hkp⟩⟩ := id l0
  obtain ⟨efi, hsh⟩ := id s0
  obtain ⟨t0, t1, t2, t3⟩ := id hsh
  obtain ⟨x1, x2, x3, x4, x5, x6⟩ := id t3
  have ts : (3 : Int).toNat = 3 := rfl
  have hz4 : ∀ j : Nat, j < 4 → 0 ≤ σ 43 j ∧ σ 43 j ≤ 60 := fun j hj => by
    rcases (by omega : j = 0 ∨ j = 1 ∨ j = 2 ∨ j = 3) with rfl | rfl | rfl | rfl
    · rw [t0.2.2.2.1]; exact t0.2.2.2.2.1
    · rw [t1.2.2.2.1]; exact t1.2.2.2.2.1
    · rw [t2.2.2.2.1]; exact t2.2.2.2.2.1
    · rw [t3.2.2.2.1]; exact t3.2.2.2.2.1
  refine ⟨_, cc_lose3 σ hσ, fun r1 σ1 q1 => ?_⟩
  rcases q1 with ⟨h1, h2, h3⟩ | ⟨h1, h2, h3⟩
  · have gs1 : sw_gs σ1 := by rw [← h3]; exact sw_gs_u hσ 0 9 (by decide)
    refine ⟨_, mm_lose σ1 gs1 3 (by decide), fun r2 σ2 q2 => ?_⟩
    have k41 : σ1 41 = σ 41 := by subst h3; rfl
    have k43 : σ1 43 = σ 43 := by subst h3; rfl
    rw [ts, k41, k43] at q2
    rcases q2 with ⟨m1, m2, m3⟩ | ⟨m1, m2, m3⟩ | ⟨m1, m2, m3⟩
    · exfalso; omega
    · subst h3; subst m3; exact ⟨_, h2, m2, sw_J_mono (N := N) (by omega) ⟨⟨⟨(sw_gs_u (sw_gs_u hσ 0 9 (by decide)) 26 39 (by decide)), hD, hV, hL, hpl, hspd, hbr, her, hmg, h61, h514, h513, h59, hro⟩, (sw_gs_u (sw_gs_u hσ 0 9 (by decide)) 26 39 (by decide)), ⟨e0, e1, e10, e11, e12, e16, e17, e18, e19, e20, e32, e33, e39, er⟩, ⟨e3, hz, hzz, hlm⟩⟩, ⟨hA, e2, hf, ⟨e7, hst, hsp⟩, e13⟩, ⟨⟨el0, hl0⟩, ⟨el1, hl1⟩, ⟨ewt, hwt⟩, ⟨ekp, hkp⟩⟩, b0, ⟨rfl, hsh⟩⟩⟩
    · exact absurd (x1.mpr h1) m1.2
  · have gs1 : sw_gs σ1 := by rw [← h3]; exact sw_gs_u hσ 21 1 (by decide)
    refine ⟨_, mm_lose σ1 gs1 3 (by decide), fun r2 σ2 q2 => ?_⟩
    have k41 : σ1 41 = σ 41 := by subst h3; rfl
    have k43 : σ1 43 = σ 43 := by subst h3; rfl
    rw [ts, k41, k43] at q2
    rcases q2 with ⟨m1, m2, m3⟩ | ⟨m1, m2, m3⟩ | ⟨m1, m2, m3⟩
    · exfalso; omega
    · exact absurd h1 (x1.mp m1.2)
    · subst h3; subst m3; exact ⟨_, h2, m2.trans (congrArg (fun z : Int => some (Sum.inl z)) x4), sw_J_mono (N := N) (by omega) ⟨⟨⟨(sw_gs_u (sw_gs_u hσ 21 1 (by decide)) 41 3 (by decide)), hD, hV, hL, hpl, hspd, hbr, her, hmg, h61, h514, h513, h59, hro⟩, (sw_gs_u (sw_gs_u hσ 21 1 (by decide)) 41 3 (by decide)), ⟨e0, e1, e10, e11, e12, e16, e17, e18, e19, e20, e32, e33, e39, er⟩, ⟨e3, hz, hzz, hlm⟩⟩, ⟨hA, e2, hf, ⟨e7, hst, hsp⟩, e13⟩, ⟨⟨el0, hl0⟩, ⟨el1, hl1⟩, ⟨ewt, hwt⟩, ⟨ekp, hkp⟩⟩, b0, ⟨efi, ⟨t0, t1, t2, ⟨(show ((0 : Int) = 0 ↔ ¬ (1 : Int) = 0) by decide), x2, x3, x4, x5, x6⟩⟩⟩⟩⟩
theorem st_put3 (N : Int) (hN : 0 ≤ N ∧ N ≤ 900000) (σ : sw_S) (J : sw_J N σ σ) (f i v : Int) (gf : sw_g f) (gi : sw_g i) (gv : sw_g v) : sw_St M_X7_put M_X8_put [.inl 3, .inl f, .inl i, .inl v] N σ := by
  obtain ⟨⟨c, g0, w0, z0⟩, r0, l0, b0, s0⟩ := id J
  obtain ⟨hσ, hD, hV, hL, hpl, hspd, hbr, her, hmg, h61, h514, h513, h59, hro⟩ := id c
  obtain ⟨e0, e1, e10, e11, e12, e16, e17, e18, e19, e20, e32, e33, e39, er⟩ := id w0
  obtain ⟨e3, hz, hzz, hlm⟩ := id z0
  obtain ⟨hA, e2, hf, ⟨e7, hst, hsp⟩, e13⟩ := id r0
  obtain ⟨⟨el0, hl0⟩, ⟨el1, hl1⟩, ⟨ewt, hwt⟩, ⟨ekp, hkp⟩⟩ := id l0
  obtain ⟨efi, hsh⟩ := id s0
  obtain ⟨t0, t1, t2, t3⟩ := id hsh
  obtain ⟨x1, x2, x3, x4, x5, x6⟩ := id t3
  have ts : (3 : Int).toNat = 3 := rfl
  have hz4 : ∀ j : Nat, j < 4 → 0 ≤ σ 43 j ∧ σ 43 j ≤ 60 := fun j hj => by
    rcases (by omega : j = 0 ∨ j = 1 ∨ j = 2 ∨ j = 3) with rfl | rfl | rfl | rfl
    · rw [t0.2.2.2.1]; exact t0.2.2.2.2.1
    · rw [t1.2.2.2.1]; exact t1.2.2.2.2.1
    · rw [t2.2.2.2.1]; exact t2.2.2.2.2.1
    · rw [t3.2.2.2.1]; exact t3.2.2.2.2.1
  refine ⟨_, cc_put3 σ hσ x5.1 x5.2 x3 f i v gf gi gv, fun r1 σ1 q1 => ?_⟩
  rcases q1 with ⟨h1, h2, h3⟩ | ⟨h1, wr, ewr, ⟨h2, h3, h4⟩ | ⟨h2, h3, h4⟩⟩
  · subst h3
    refine ⟨_, mm_put σ hσ 3 (by decide) hz4 f i v gf gi gv, fun r2 σ2 q2 => ?_⟩
    rcases q2 with ⟨m1, m2, m3⟩ | ⟨m1, wr2, ew2, q3⟩
    · subst m3; exact ⟨_, h2, m2, sw_J_mono (N := N) (by omega) J⟩
    · exfalso; omega
  · have gw : 0 ≤ wr ∧ wr ≤ 3 := by omega
    · have gs1 : sw_gs σ1 := by rw [← h4]; exact sw_gs_u hσ 0 9 (by omega)
      have k41 : σ1 41 = σ 41 := by subst h4; rfl
      have k42 : σ1 42 = σ 42 := by subst h4; rfl
      have k43 : σ1 43 = σ 43 := by subst h4; rfl
      have k44 : σ1 44 = σ 44 := by subst h4; rfl
      refine ⟨_, mm_put σ1 gs1 3 (by decide) (by rw [k43]; exact hz4) f i v gf gi gv, fun r2 σ2 q2 => ?_⟩
      rw [ts, k41, k42, k43] at q2
      skip
      rcases q2 with ⟨m1, m2, m3⟩ | ⟨m1, wr2, ew2, ⟨m0, m2, m3⟩ | ⟨m0, m2, m3⟩⟩
      · exfalso; omega
      · have ew : wr2 = wr := by omega
        subst ew
        · subst h4; subst m3
          exact ⟨_, h3, m2, sw_J_mono (N := N) (by omega) ⟨⟨⟨(sw_gs_u (sw_gs_u hσ 0 9 (by omega)) 26 39 (by omega)), hD, hV, hL, hpl, hspd, hbr, her, hmg, h61, h514, h513, h59, hro⟩, (sw_gs_u (sw_gs_u hσ 0 9 (by omega)) 26 39 (by omega)), ⟨e0, e1, e10, e11, e12, e16, e17, e18, e19, e20, e32, e33, e39, er⟩, ⟨e3, hz, hzz, hlm⟩⟩, ⟨hA, e2, hf, ⟨e7, hst, hsp⟩, e13⟩, ⟨⟨el0, hl0⟩, ⟨el1, hl1⟩, ⟨ewt, hwt⟩, ⟨ekp, hkp⟩⟩, b0, ⟨rfl, hsh⟩⟩⟩
      · have ew : wr2 = wr := by omega
        subst ew
        exfalso; omega
  · · have gs1 : sw_gs σ1 := by rw [← h4]; exact sw_gs_u hσ 22 _ (sw_cv_g gv)
      have k41 : σ1 41 = σ 41 := by subst h4; rfl
      have k42 : σ1 42 = σ 42 := by subst h4; rfl
      have k43 : σ1 43 = σ 43 := by subst h4; rfl
      have k44 : σ1 44 = σ 44 := by subst h4; rfl
      refine ⟨_, mm_put σ1 gs1 3 (by decide) (by rw [k43]; exact hz4) f i v gf gi gv, fun r2 σ2 q2 => ?_⟩
      rw [ts, k41, k42, k43] at q2
      skip
      rcases q2 with ⟨m1, m2, m3⟩ | ⟨m1, wr2, ew2, ⟨m0, m2, m3⟩ | ⟨m0, m2, m3⟩⟩
      · exfalso; omega
      · have ew : wr2 = wr := by omega
        subst ew
        exfalso; omega
      · have ew : wr2 = wr := by omega
        subst ew
        · have ei : (60 * (3 : Int) + i).toNat = 60 * 3 + i.toNat := by omega
          rw [ei] at m3
          have hr : ∀ p q, p ≠ 22 → p ≠ 44 → σ2 p q = σ p q := fun p q hp hq => by rw [← m3, ← h4, sw_u_row _ _ hq, sw_u_row _ _ hp]
          have gs2 : sw_gs σ2 := by rw [← m3]; exact sw_gs_u gs1 44 _ (sw_cv_g gv)
          have hc : ∀ q, σ2 22 q = (if q = i.toNat then sw_cv (σ 21 2) v else σ 22 q) := fun q => by
            rw [← m3, sw_u_row _ _ (by decide), ← h4]
            show (if 22 = 22 ∧ q = i.toNat then sw_cv (σ 21 2) v else σ 22 q) = _
            by_cases zz : q = i.toNat
            · rw [if_pos ⟨rfl, zz⟩, if_pos zz]
            · rw [if_neg (fun y => zz y.2), if_neg zz]
          have hm : ∀ q, σ2 44 q = (if q = 60 * 3 + i.toNat then sw_cv (σ 21 2) v else σ 44 q) := fun q => by
            rw [← m3, ← h4, x2]
            show (if 44 = 44 ∧ q = 60 * 3 + i.toNat then sw_cv (σ 21 2) v else σ 44 q) = _
            by_cases zz : q = 60 * 3 + i.toNat
            · rw [if_pos ⟨rfl, zz⟩, if_pos zz]
            · rw [if_neg (fun y => zz y.2), if_neg zz]
          refine ⟨_, h3, m2, sw_J_mono (N := N) (by omega) (sw_J_it3 J gs2 hr (fun j hj => ?_) (fun y hy => ?_))⟩
          · rw [hc, hm]
            by_cases zz : j = i.toNat
            · rw [if_pos zz, if_pos (by omega)]
            · rw [if_neg zz, if_neg (by omega)]; exact x6 j hj
          · rw [hm, if_neg (by omega)]
theorem st_get3 (N : Int) (hN : 0 ≤ N ∧ N ≤ 900000) (σ : sw_S) (J : sw_J N σ σ) (f i : Int) (gf : sw_g f) (gi : sw_g i) : sw_St M_X7_get M_X8_get [.inl 3, .inl f, .inl i] N σ := by
  obtain ⟨⟨c, g0, w0, z0⟩, r0, l0, b0, s0⟩ := id J
  obtain ⟨hσ, hD, hV, hL, hpl, hspd, hbr, her, hmg, h61, h514, h513, h59, hro⟩ := id c
  obtain ⟨e0, e1, e10, e11, e12, e16, e17, e18, e19, e20, e32, e33, e39, er⟩ := id w0
  obtain ⟨e3, hz, hzz, hlm⟩ := id z0
  obtain ⟨hA, e2, hf, ⟨e7, hst, hsp⟩, e13⟩ := id r0
  obtain ⟨⟨el0, hl0⟩, ⟨el1, hl1⟩, ⟨ewt, hwt⟩, ⟨ekp, hkp⟩⟩ := id l0
  obtain ⟨efi, hsh⟩ := id s0
  obtain ⟨t0, t1, t2, t3⟩ := id hsh
  obtain ⟨x1, x2, x3, x4, x5, x6⟩ := id t3
  have ts : (3 : Int).toNat = 3 := rfl
  have hz4 : ∀ j : Nat, j < 4 → 0 ≤ σ 43 j ∧ σ 43 j ≤ 60 := fun j hj => by
    rcases (by omega : j = 0 ∨ j = 1 ∨ j = 2 ∨ j = 3) with rfl | rfl | rfl | rfl
    · rw [t0.2.2.2.1]; exact t0.2.2.2.2.1
    · rw [t1.2.2.2.1]; exact t1.2.2.2.2.1
    · rw [t2.2.2.2.1]; exact t2.2.2.2.2.1
    · rw [t3.2.2.2.1]; exact t3.2.2.2.2.1
  refine ⟨_, cc_get3 σ hσ x5.1 x5.2 f i gf gi, fun r1 σ1 q1 => ?_⟩
  rcases q1 with ⟨h1, h2, h3⟩ | ⟨h1, wr, ewr, ⟨h2, h3, h4⟩ | ⟨h2, h3, h4⟩⟩
  · subst h3
    refine ⟨_, mm_get σ hσ 3 (by decide) hz4 f i gf gi, fun r2 σ2 q2 => ?_⟩
    rcases q2 with ⟨m1, m2, m3⟩ | ⟨m1, wr2, ew2, q3⟩
    · subst m3; exact ⟨_, h2, m2, sw_J_mono (N := N) (by omega) J⟩
    · exfalso; omega
  · have gw : 0 ≤ wr ∧ wr ≤ 3 := by omega
    · have gs1 : sw_gs σ1 := by rw [← h4]; exact sw_gs_u hσ 0 9 (by omega)
      have k41 : σ1 41 = σ 41 := by subst h4; rfl
      have k42 : σ1 42 = σ 42 := by subst h4; rfl
      have k43 : σ1 43 = σ 43 := by subst h4; rfl
      have k44 : σ1 44 = σ 44 := by subst h4; rfl
      refine ⟨_, mm_get σ1 gs1 3 (by decide) (by rw [k43]; exact hz4) f i gf gi, fun r2 σ2 q2 => ?_⟩
      rw [ts, k41, k42, k43] at q2
      rw [k44] at q2
      rcases q2 with ⟨m1, m2, m3⟩ | ⟨m1, wr2, ew2, ⟨m0, m2, m3⟩ | ⟨m0, m2, m3⟩⟩
      · exfalso; omega
      · have ew : wr2 = wr := by omega
        subst ew
        · subst h4; subst m3
          exact ⟨_, h3, m2, sw_J_mono (N := N) (by omega) ⟨⟨⟨(sw_gs_u (sw_gs_u hσ 0 9 (by omega)) 26 39 (by omega)), hD, hV, hL, hpl, hspd, hbr, her, hmg, h61, h514, h513, h59, hro⟩, (sw_gs_u (sw_gs_u hσ 0 9 (by omega)) 26 39 (by omega)), ⟨e0, e1, e10, e11, e12, e16, e17, e18, e19, e20, e32, e33, e39, er⟩, ⟨e3, hz, hzz, hlm⟩⟩, ⟨hA, e2, hf, ⟨e7, hst, hsp⟩, e13⟩, ⟨⟨el0, hl0⟩, ⟨el1, hl1⟩, ⟨ewt, hwt⟩, ⟨ekp, hkp⟩⟩, b0, ⟨rfl, hsh⟩⟩⟩
      · have ew : wr2 = wr := by omega
        subst ew
        exfalso; omega
  · · have gs1 : sw_gs σ1 := by rw [← h4]; exact hσ
      have k41 : σ1 41 = σ 41 := by subst h4; rfl
      have k42 : σ1 42 = σ 42 := by subst h4; rfl
      have k43 : σ1 43 = σ 43 := by subst h4; rfl
      have k44 : σ1 44 = σ 44 := by subst h4; rfl
      refine ⟨_, mm_get σ1 gs1 3 (by decide) (by rw [k43]; exact hz4) f i gf gi, fun r2 σ2 q2 => ?_⟩
      rw [ts, k41, k42, k43] at q2
      rw [k44] at q2
      rcases q2 with ⟨m1, m2, m3⟩ | ⟨m1, wr2, ew2, ⟨m0, m2, m3⟩ | ⟨m0, m2, m3⟩⟩
      · exfalso; omega
      · have ew : wr2 = wr := by omega
        subst ew
        exfalso; omega
      · have ew : wr2 = wr := by omega
        subst ew
        · have ei : (60 * (3 : Int) + i).toNat = 60 * 3 + i.toNat := by omega
          rw [ei, x6 _ (by omega)] at m2
          subst h4; subst m3
          exact ⟨_, h3, m2, sw_J_mono (N := N) (by omega) J⟩
theorem st_read3 (N : Int) (hN : 0 ≤ N ∧ N ≤ 900000) (σ : sw_S) (J : sw_J N σ σ)  : sw_St M_X7_read M_X8_read [.inl 3] N σ := by
  obtain ⟨⟨c, g0, w0, z0⟩, r0, l0, b0, s0⟩ := id J
  obtain ⟨hσ, hD, hV, hL, hpl, hspd, hbr, her, hmg, h61, h514, h513, h59, hro⟩ := id c
  obtain ⟨e0, e1, e10, e11, e12, e16, e17, e18, e19, e20, e32, e33, e39, er⟩ := id w0
  obtain ⟨e3, hz, hzz, hlm⟩ := id z0
  obtain ⟨hA, e2, hf, ⟨e7, hst, hsp⟩, e13⟩ := id r0
  obtain ⟨⟨el0, hl0⟩, ⟨el1, hl1⟩, ⟨ewt, hwt⟩, ⟨ekp, hkp⟩⟩ := id l0
  obtain ⟨efi, hsh⟩ := id s0
  obtain ⟨t0, t1, t2, t3⟩ := id hsh
  obtain ⟨x1, x2, x3, x4, x5, x6⟩ := id t3
  have ts : (3 : Int).toNat = 3 := rfl
  have hz4 : ∀ j : Nat, j < 4 → 0 ≤ σ 43 j ∧ σ 43 j ≤ 60 := fun j hj => by
    rcases (by omega : j = 0 ∨ j = 1 ∨ j = 2 ∨ j = 3) with rfl | rfl | rfl | rfl
    · rw [t0.2.2.2.1]; exact t0.2.2.2.2.1
    · rw [t1.2.2.2.1]; exact t1.2.2.2.2.1
    · rw [t2.2.2.2.1]; exact t2.2.2.2.2.1
    · rw [t3.2.2.2.1]; exact t3.2.2.2.2.1
  refine ⟨_, cc_read3 σ hσ x5.1 x5.2, fun r1 σ1 q1 => ?_⟩
  have gr : ∀ (p : Nat → Int) (j : Nat), sw_g (max 0 (min (p j) 99)) := fun p j => by constructor <;> omega
  rcases q1 with ⟨h1, h2, h3⟩ | ⟨h1, h2, h3⟩
  · have gs1 : sw_gs σ1 := by rw [← h3]; exact sw_gs_u hσ 0 9 (by decide)
    have k41 : σ1 41 = σ 41 := by subst h3; rfl
    have k43 : σ1 43 = σ 43 := by subst h3; rfl
    have k44 : σ1 44 = σ 44 := by subst h3; rfl
    refine ⟨_, mm_read σ1 gs1 3 (by decide) (by rw [k43]; exact hz4), fun r2 σ2 q2 => ?_⟩
    rw [ts, k41, k43, k44] at q2
    rcases q2 with ⟨m1, m2, m3⟩ | ⟨m1, m2, m3⟩ | ⟨m1, m2, m3⟩
    · exfalso; omega
    · subst h3; subst m3; exact ⟨_, h2, m2, sw_J_mono (N := N) (by omega) ⟨⟨⟨(sw_gs_u (sw_gs_u hσ 0 9 (by decide)) 26 39 (by decide)), hD, hV, hL, hpl, hspd, hbr, her, hmg, h61, h514, h513, h59, hro⟩, (sw_gs_u (sw_gs_u hσ 0 9 (by decide)) 26 39 (by decide)), ⟨e0, e1, e10, e11, e12, e16, e17, e18, e19, e20, e32, e33, e39, er⟩, ⟨e3, hz, hzz, hlm⟩⟩, ⟨hA, e2, hf, ⟨e7, hst, hsp⟩, e13⟩, ⟨⟨el0, hl0⟩, ⟨el1, hl1⟩, ⟨ewt, hwt⟩, ⟨ekp, hkp⟩⟩, b0, ⟨rfl, hsh⟩⟩⟩
    · exact absurd (x1.mpr h1) m1.2
  · have gs1 : sw_gs σ1 := by rw [← h3]; exact sw_pf_gs hσ 13 _ (fun j _ => gr (σ 22) j)
    have k41 : σ1 41 = σ 41 := by subst h3; rfl
    have k43 : σ1 43 = σ 43 := by subst h3; rfl
    have k44 : σ1 44 = σ 44 := by subst h3; rfl
    refine ⟨_, mm_read σ1 gs1 3 (by decide) (by rw [k43]; exact hz4), fun r2 σ2 q2 => ?_⟩
    rw [ts, k41, k43, k44, x4] at q2
    rcases q2 with ⟨m1, m2, m3⟩ | ⟨m1, m2, m3⟩ | ⟨m1, m2, m3⟩
    · exfalso; omega
    · exact absurd h1 (x1.mp m1.2)
    · have gs2 : sw_gs σ2 := by rw [← m3]; exact sw_pf_gs gs1 40 _ (fun j _ => gr (fun j => σ 44 (60 * (3 : Int) + (j : Int)).toNat) j)
      have bb : sw_jb σ2 σ2 := fun j hj => by
        have e1 : σ2 40 j = (if j < (σ 21 3).toNat then max 0 (min (σ 44 (60 * (3 : Int) + (j : Int)).toNat) 99) else σ 40 j) := by
          rw [← m3, ← h3]
          show (if 40 = 40 ∧ j < (σ 21 3).toNat then max 0 (min (σ 44 (60 * (3 : Int) + (j : Int)).toNat) 99) else σ 40 j) = _
          by_cases zz : j < (σ 21 3).toNat
          · rw [if_pos ⟨rfl, zz⟩, if_pos zz]
          · rw [if_neg (fun y => zz y.2), if_neg zz]
        have e2 : σ2 13 j = (if j < (σ 21 3).toNat then max 0 (min (σ 22 j) 99) else σ 13 j) := by
          rw [← m3, ← h3]
          show (if 13 = 13 ∧ j < (σ 21 3).toNat then max 0 (min (σ 22 j) 99) else σ 13 j) = _
          by_cases zz : j < (σ 21 3).toNat
          · rw [if_pos ⟨rfl, zz⟩, if_pos zz]
          · rw [if_neg (fun y => zz y.2), if_neg zz]
        rw [e1, e2]
        by_cases zz : j < (σ 21 3).toNat
        · rw [if_pos zz, if_pos zz, show (60 * (3 : Int) + (j : Int)).toNat = 60 * 3 + j by omega, x6 j hj]
          exact ⟨rfl, by omega, by omega⟩
        · rw [if_neg zz, if_neg zz]
          exact b0 j hj
      subst h3; subst m3; exact ⟨_, h2, m2, sw_J_mono (N := N) (by omega) ⟨⟨⟨gs2, hD, hV, hL, hpl, hspd, hbr, her, hmg, h61, h514, h513, h59, hro⟩, gs2, ⟨e0, e1, e10, e11, e12, e16, e17, e18, e19, e20, e32, e33, e39, er⟩, ⟨e3, hz, hzz, hlm⟩⟩, ⟨hA, e2, hf, ⟨e7, hst, hsp⟩, e13⟩, ⟨⟨el0, hl0⟩, ⟨el1, hl1⟩, ⟨ewt, hwt⟩, ⟨ekp, hkp⟩⟩, bb, ⟨efi, hsh⟩⟩⟩
theorem st_write3 (N : Int) (hN : 0 ≤ N ∧ N ≤ 900000) (σ : sw_S) (J : sw_J N σ σ) (w : Int) (gw : sw_g w) : sw_St M_X7_write M_X8_write [.inl 3, .inl w] N σ := by
  obtain ⟨⟨c, g0, w0, z0⟩, r0, l0, b0, s0⟩ := id J
  obtain ⟨hσ, hD, hV, hL, hpl, hspd, hbr, her, hmg, h61, h514, h513, h59, hro⟩ := id c
  obtain ⟨e0, e1, e10, e11, e12, e16, e17, e18, e19, e20, e32, e33, e39, er⟩ := id w0
  obtain ⟨e3, hz, hzz, hlm⟩ := id z0
  obtain ⟨hA, e2, hf, ⟨e7, hst, hsp⟩, e13⟩ := id r0
  obtain ⟨⟨el0, hl0⟩, ⟨el1, hl1⟩, ⟨ewt, hwt⟩, ⟨ekp, hkp⟩⟩ := id l0
  obtain ⟨efi, hsh⟩ := id s0
  obtain ⟨t0, t1, t2, t3⟩ := id hsh
  obtain ⟨x1, x2, x3, x4, x5, x6⟩ := id t3
  have ts : (3 : Int).toNat = 3 := rfl
  have hz4 : ∀ j : Nat, j < 4 → 0 ≤ σ 43 j ∧ σ 43 j ≤ 60 := fun j hj => by
    rcases (by omega : j = 0 ∨ j = 1 ∨ j = 2 ∨ j = 3) with rfl | rfl | rfl | rfl
    · rw [t0.2.2.2.1]; exact t0.2.2.2.2.1
    · rw [t1.2.2.2.1]; exact t1.2.2.2.2.1
    · rw [t2.2.2.2.1]; exact t2.2.2.2.2.1
    · rw [t3.2.2.2.1]; exact t3.2.2.2.2.1
  refine ⟨_, cc_write3 σ hσ x5.1 x5.2 x3 (by omega) w gw, fun r1 σ1 q1 => ?_⟩
  rcases q1 with ⟨h1, h2, h3⟩ | ⟨h1, h2, h3⟩ | ⟨h1, h2, h3⟩
  · subst h3
    refine ⟨_, mm_write σ hσ 3 (by decide) hz4 (by omega) w gw, fun r2 σ2 q2 => ?_⟩
    rcases q2 with ⟨m1, m2, m3⟩ | ⟨m1, m2, m3⟩ | ⟨m1, m2, m3⟩
    · subst m3; exact ⟨_, h2, m2, sw_J_mono (N := N) (by omega) J⟩
    · exfalso; omega
    · exfalso; omega
  · have gs1 : sw_gs σ1 := by rw [← h3]; exact sw_gs_u hσ 0 9 (by decide)
    have k26 : σ1 26 = σ 26 := by subst h3; rfl
    have k39 : σ1 39 = σ 39 := by subst h3; rfl
    have k41 : σ1 41 = σ 41 := by subst h3; rfl
    have k42 : σ1 42 = σ 42 := by subst h3; rfl
    have k43 : σ1 43 = σ 43 := by subst h3; rfl
    refine ⟨_, mm_write σ1 gs1 3 (by decide) (by rw [k43]; exact hz4) (by rw [k26]; omega) w gw, fun r2 σ2 q2 => ?_⟩
    rw [ts, k26, k39, k41, k42, k43] at q2
    rcases q2 with ⟨m1, m2, m3⟩ | ⟨m1, m2, m3⟩ | ⟨m1, m2, m3⟩
    · exfalso; omega
    · subst h3; subst m3; exact ⟨_, h2, m2, sw_J_mono (N := N) (by omega) ⟨⟨⟨(sw_gs_u (sw_gs_u hσ 0 9 (by decide)) 26 39 (by decide)), hD, hV, hL, hpl, hspd, hbr, her, hmg, h61, h514, h513, h59, hro⟩, (sw_gs_u (sw_gs_u hσ 0 9 (by decide)) 26 39 (by decide)), ⟨e0, e1, e10, e11, e12, e16, e17, e18, e19, e20, e32, e33, e39, er⟩, ⟨e3, hz, hzz, hlm⟩⟩, ⟨hA, e2, hf, ⟨e7, hst, hsp⟩, e13⟩, ⟨⟨el0, hl0⟩, ⟨el1, hl1⟩, ⟨ewt, hwt⟩, ⟨ekp, hkp⟩⟩, b0, ⟨rfl, hsh⟩⟩⟩
    · exact absurd (x1.mpr h1.2) m1.2
  · have gs1 : sw_gs σ1 := by rw [← h3]; exact sw_pf_gs hσ 22 _ (fun j _ => sw_cv_g (hσ 7 _))
    have k26 : σ1 26 = σ 26 := by subst h3; rfl
    have k39 : σ1 39 = σ 39 := by subst h3; rfl
    have k41 : σ1 41 = σ 41 := by subst h3; rfl
    have k42 : σ1 42 = σ 42 := by subst h3; rfl
    have k43 : σ1 43 = σ 43 := by subst h3; rfl
    refine ⟨_, mm_write σ1 gs1 3 (by decide) (by rw [k43]; exact hz4) (by rw [k26]; omega) w gw, fun r2 σ2 q2 => ?_⟩
    rw [ts, k26, k39, k41, k42, k43, e18, x2, x4] at q2
    rcases q2 with ⟨m1, m2, m3⟩ | ⟨m1, m2, m3⟩ | ⟨m1, m2, m3⟩
    · exfalso; omega
    · exact absurd h1.2 (x1.mp m1.2)
    · have hK : 0 ≤ (min (min (σ 6 1) 40) (σ 21 3)) ∧ (min (min (σ 6 1) 40) (σ 21 3)) ≤ 40 ∧ (min (min (σ 6 1) 40) (σ 21 3)) ≤ 60 ∧ (min (min (σ 6 1) 40) (σ 21 3)) ≤ σ 6 1 := by omega
      generalize (min (min (σ 6 1) 40) (σ 21 3)) = K at h2 h3 m2 m3 hK
      have gs2 : sw_gs σ2 := by rw [← m3]; exact sw_pg_gs gs1 44 _ _ (fun j _ => sw_cv_g (hσ 39 _))
      have hr : ∀ p q, p ≠ 22 → p ≠ 44 → σ2 p q = σ p q := fun p q hp hq => by rw [← m3, sw_pg_row _ _ _ _ hq, ← h3, sw_pf_row _ _ _ hp]
      have hm : ∀ q, σ2 44 q = (if 60 * 3 ≤ q ∧ q < 60 * 3 + K.toNat then sw_cv (σ 21 2) (σ 39 (3 * ((σ 6 1 - K + ((q - 60 * 3 : Nat) : Int)) % 40) + w).toNat) else σ 44 q) := fun q => by
        rw [← m3, ← h3]
        show (if 44 = 44 ∧ (60 * 3 ≤ q ∧ q < 60 * 3 + K.toNat) then sw_cv (σ 21 2) (σ 39 (3 * ((σ 6 1 - K + ((q - 60 * 3 : Nat) : Int)) % 40) + w).toNat) else σ 44 q) = _
        by_cases zz : 60 * 3 ≤ q ∧ q < 60 * 3 + K.toNat
        · rw [if_pos ⟨rfl, zz⟩, if_pos zz]
        · rw [if_neg (fun y => zz y.2), if_neg zz]
      have hc : ∀ q, σ2 22 q = (if q < K.toNat then sw_cv (σ 21 2) (σ 7 ((σ 6 1 - 1 - (K - 1 - (q : Int))) % 40 * 3 + w).toNat) else σ 22 q) := fun q => by
        rw [← m3, sw_pg_row _ _ _ _ (by decide), ← h3]
        show (if 22 = 22 ∧ q < K.toNat then sw_cv (σ 21 2) (σ 7 ((σ 6 1 - 1 - (K - 1 - (q : Int))) % 40 * 3 + w).toNat) else σ 22 q) = _
        by_cases zz : q < K.toNat
        · rw [if_pos ⟨rfl, zz⟩, if_pos zz]
        · rw [if_neg (fun y => zz y.2), if_neg zz]
      refine ⟨_, h2, m2, sw_J_mono (N := N) (by omega) (sw_J_it3 J gs2 hr (fun j hj => ?_) (fun y hy => ?_))⟩
      · rw [hc, hm]
        by_cases zz : j < K.toNat
        · rw [if_pos zz, if_pos (by omega), show 60 * 3 + j - 60 * 3 = j by omega, e39 _ (by omega), show 3 * ((σ 6 1 - K + (j : Int)) % 40) + w = (σ 6 1 - 1 - (K - 1 - (j : Int))) % 40 * 3 + w by rw [show σ 6 1 - 1 - (K - 1 - (j : Int)) = σ 6 1 - K + (j : Int) by omega]; omega]
        · rw [if_neg zz, if_neg (by omega)]; exact x6 j hj
      · rw [hm, if_neg (by omega)]
