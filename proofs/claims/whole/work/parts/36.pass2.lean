theorem sw_Con_mono {ly : sw_Ly} {ρ : sw_Rf} {M : sw_M} {args : List sw_Vl} {σ : sw_S} {Q Q' : Option sw_Vl → sw_S → Prop} (h : sw_Con ly ρ M args σ Q) (hq : ∀ r σ', Q r σ' → Q' r σ') : sw_Con ly ρ M args σ Q' := by
  intro l D c3 ad sz hj
  exact MetFree.mono (h l D c3 ad sz hj) (fun _ _ q => q) (fun _ _ _ _ _ q => q) (fun a s o t _ q => ⟨by
    obtain ⟨⟨r, σ', h1, h2, h3⟩, h4⟩ := q.1
    exact ⟨⟨r, σ', h1, hq r σ' h2, h3⟩, h4⟩, q.2⟩)
def sw_mNP (σ : sw_S) : Int := (if σ 26 12 = 1 then (if (0 < sw_cnt (σ 32) 8 ∨ (sw_aw (σ 27) (σ 28) (σ 29) (σ 26 1) (σ 26 0) (σ 26 10 + (σ 33 0 + σ 33 1 + σ 33 2 - min (σ 33 0) (min (σ 33 1) (σ 33 2)) - max (σ 33 0) (max (σ 33 1) (σ 33 2)))) (σ 26 3).toNat).1 + σ 26 16 < sw_abs (σ 34 (σ 26 23).toNat)) then sw_sp (σ 26 0) (σ 26 17) (σ 26 10) (σ 26 11) else σ 26 10 + (σ 34 (σ 26 23).toNat)) else if σ 26 12 = 2 then sw_sp (σ 26 0) (σ 26 17) (σ 26 10) (σ 26 11) else σ 26 10)
def sw_mNV (σ : sw_S) : Int := (if σ 26 12 = 1 then (if (0 < sw_cnt (σ 32) 8 ∨ (sw_aw (σ 27) (σ 28) (σ 29) (σ 26 1) (σ 26 0) (σ 26 10 + (σ 33 0 + σ 33 1 + σ 33 2 - min (σ 33 0) (min (σ 33 1) (σ 33 2)) - max (σ 33 0) (max (σ 33 1) (σ 33 2)))) (σ 26 3).toNat).1 + σ 26 16 < sw_abs (σ 34 (σ 26 23).toNat)) then sw_sv (σ 26 0) (σ 26 17) (σ 26 10) (σ 26 11) else if σ 26 23 + 1 = σ 26 22 then 0 else (σ 34 (σ 26 23).toNat)) else if σ 26 12 = 2 then sw_sv (σ 26 0) (σ 26 17) (σ 26 10) (σ 26 11) else σ 26 11)
def sw_mNH (σ : sw_S) : Int := (if σ 26 12 = 1 then (if (0 < sw_cnt (σ 32) 8 ∨ (sw_aw (σ 27) (σ 28) (σ 29) (σ 26 1) (σ 26 0) (σ 26 10 + (σ 33 0 + σ 33 1 + σ 33 2 - min (σ 33 0) (min (σ 33 1) (σ 33 2)) - max (σ 33 0) (max (σ 33 1) (σ 33 2)))) (σ 26 3).toNat).1 + σ 26 16 < sw_abs (σ 34 (σ 26 23).toNat)) then (if sw_sv (σ 26 0) (σ 26 17) (σ 26 10) (σ 26 11) = 0 then 0 else 2) else if σ 26 23 + 1 = σ 26 22 then 0 else 1) else if σ 26 12 = 2 then (if sw_sv (σ 26 0) (σ 26 17) (σ 26 10) (σ 26 11) = 0 then 0 else 2) else σ 26 12)
def sw_mNE (σ : sw_S) : Int := (if σ 26 12 = 1 then (if (0 < sw_cnt (σ 32) 8 ∨ (sw_aw (σ 27) (σ 28) (σ 29) (σ 26 1) (σ 26 0) (σ 26 10 + (σ 33 0 + σ 33 1 + σ 33 2 - min (σ 33 0) (min (σ 33 1) (σ 33 2)) - max (σ 33 0) (max (σ 33 1) (σ 33 2)))) (σ 26 3).toNat).1 + σ 26 16 < sw_abs (σ 34 (σ 26 23).toNat)) then σ 26 19 else if σ 26 23 + 1 = σ 26 22 then σ 26 19 + 1 else σ 26 19) else σ 26 19)
def sw_mNB (σ : sw_S) : Int := (if σ 26 12 = 1 then (if (0 < sw_cnt (σ 32) 8 ∨ (sw_aw (σ 27) (σ 28) (σ 29) (σ 26 1) (σ 26 0) (σ 26 10 + (σ 33 0 + σ 33 1 + σ 33 2 - min (σ 33 0) (min (σ 33 1) (σ 33 2)) - max (σ 33 0) (max (σ 33 1) (σ 33 2)))) (σ 26 3).toNat).1 + σ 26 16 < sw_abs (σ 34 (σ 26 23).toNat)) then σ 26 20 + 1 else σ 26 20) else σ 26 20)
def sw_mNR (σ : sw_S) : Int := (if σ 26 12 = 1 then (if (0 < sw_cnt (σ 32) 8 ∨ (sw_aw (σ 27) (σ 28) (σ 29) (σ 26 1) (σ 26 0) (σ 26 10 + (σ 33 0 + σ 33 1 + σ 33 2 - min (σ 33 0) (min (σ 33 1) (σ 33 2)) - max (σ 33 0) (max (σ 33 1) (σ 33 2)))) (σ 26 3).toNat).1 + σ 26 16 < sw_abs (σ 34 (σ 26 23).toNat)) then σ 26 22 else σ 26 23 + 1) else σ 26 23)
/-- the reference's cage has moved by a tick -/
def sw_mmv (σ σ' : sw_S) : Prop := (∀ i j, ¬ (i = 26 ∧ (j = 10 ∨ j = 11 ∨ j = 12 ∨ j = 19 ∨ j = 20 ∨ j = 23)) → σ' i j = σ i j) ∧ σ' 26 10 = sw_mNP σ ∧ σ' 26 11 = sw_mNV σ ∧ σ' 26 12 = sw_mNH σ ∧ σ' 26 19 = sw_mNE σ ∧ σ' 26 20 = sw_mNB σ ∧ σ' 26 23 = sw_mNR σ
/-- one tick of the reference -/
def sw_mst (σ σ' : sw_S) : Prop := (∀ i j, i ≠ 39 → ¬ (i = 26 ∧ (j = 10 ∨ j = 11 ∨ j = 12 ∨ j = 18 ∨ j = 19 ∨ j = 20 ∨ j = 23)) → σ' i j = σ i j) ∧ σ' 26 10 = sw_mNP σ ∧ σ' 26 11 = sw_mNV σ ∧ σ' 26 12 = sw_mNH σ ∧ σ' 26 19 = sw_mNE σ ∧ σ' 26 20 = sw_mNB σ ∧ σ' 26 23 = sw_mNR σ ∧ σ' 26 18 = σ 26 18 + 1 ∧ ∀ j : Nat, σ' 39 j = (if (j : Int) = (σ 26 18 % 40 * 3) then sw_mNP σ else if (j : Int) = (σ 26 18 % 40 * 3) + 1 then sw_mNV σ else if (j : Int) = (σ 26 18 % 40 * 3) + 2 then sw_mNH σ else σ 39 j)
theorem sw_mlog {σ τ : sw_S} (h : sw_mmv σ τ) (h0 : 0 ≤ σ 26 18) : sw_mst σ (sw_u (sw_u (sw_u (sw_u τ 39 (3 * (τ 26 18 % 40)).toNat (τ 26 10)) 39 (3 * (τ 26 18 % 40) + 1).toNat (τ 26 11)) 39 (3 * (τ 26 18 % 40) + 2).toNat (τ 26 12)) 26 18 (τ 26 18 + 1)) := by
  obtain ⟨f, s10, s11, s12, s19, s20, s23⟩ := h
  have e18 : τ 26 18 = σ 26 18 := f 26 18 (by omega)
  refine ⟨fun i j h1 h2 => ?_, s10, s11, s12, s19, s20, s23, ?_, fun j => ?_⟩
  · unfold sw_u
    rw [if_neg (by omega), if_neg (by omega), if_neg (by omega), if_neg (by omega)]
    exact f i j (by omega)
  · rw [sw_u_same, e18]
  · rw [sw_u_row _ _ (by decide), ← s10, ← s11, ← s12, e18]
    unfold sw_u
    simp only [true_and]
    rw [f 39 j (by omega)]
    split
    · next z => rw [if_neg (by omega), if_neg (by omega), if_pos (by omega)]
    · split
      · next z => rw [if_neg (by omega), if_pos (by omega)]
      · split
        · next z => rw [if_pos (by omega)]
        · rw [if_neg (by omega), if_neg (by omega), if_neg (by omega)]
/-! THE RELATION of class (a) and reference (τ) -/
def sw_jw (a τ : sw_S) : Prop := τ 26 0 = a 1 0 ∧ τ 26 1 = a 1 1 ∧ τ 26 10 = a 5 7 ∧ τ 26 11 = a 5 8 ∧ τ 26 12 = a 5 9 ∧ τ 26 16 = a 5 11 ∧ τ 26 17 = a 5 12 ∧ τ 26 18 = a 6 1 ∧ τ 26 19 = a 5 13 ∧ τ 26 20 = a 5 14 ∧ (∀ j, j < 8 → τ 32 j = a 8 j) ∧ (∀ j, j < 3 → τ 33 j = a 9 j) ∧ (∀ j, j < 120 → τ 39 j = a 7 j) ∧ (a 5 9 = 1 → τ 26 22 = a 5 5 ∧ τ 26 23 = a 5 6 ∧ ∀ j : Nat, (j : Int) < a 5 5 → τ 34 j = a 10 j)
def sw_jz (a τ : sw_S) : Prop := τ 26 3 = a 1 3 ∧ (0 ≤ a 1 3 ∧ a 1 3 ≤ 6) ∧ (∀ z : Nat, (z : Int) < a 1 3 → 0 ≤ τ 27 z ∧ τ 27 z ≤ τ 28 z ∧ τ 28 z ≤ a 1 0 ∧ 1 ≤ τ 29 z ∧ τ 29 z ≤ 20) ∧ (∀ j : Nat, (j : Int) ≤ a 1 0 → sw_lm τ j = a 2 j)
def sw_jp (N : Int) (a τ : sw_S) : Prop := sw_ck N a ∧ sw_gs τ ∧ sw_jw a τ ∧ sw_jz a τ
theorem sw_cnt_cong {f g : Nat → Int} : ∀ n, (∀ j, j < n → f j = g j) → sw_cnt f n = sw_cnt g n
  | 0, _ => rfl
  | n + 1, e => by rw [sw_cnt, sw_cnt, sw_cnt_cong n (fun j hj => e j (by omega)), e n (by omega)]
theorem sw_aw_out {fr to sp : Nat → Int} {top D x : Int} (hx : x < 0 ∨ D < x) : ∀ n : Nat, (∀ z, z < n → 0 ≤ fr z ∧ to z ≤ D) → sw_aw fr to sp top D x n = (top, 0)
  | 0, _ => rfl
  | n + 1, h => by
    have := h n (by omega)
    rw [sw_aw, if_neg (by omega)]
    exact sw_aw_out hx n (fun z hz => h z (by omega))
theorem sw_aw_b {fr to sp : Nat → Int} {top D x : Int} (ht : 1 ≤ top ∧ top ≤ 20) : ∀ n : Nat, (∀ z, z < n → 1 ≤ sp z ∧ sp z ≤ 20) → 1 ≤ (sw_aw fr to sp top D x n).1 ∧ (sw_aw fr to sp top D x n).1 ≤ 20
  | 0, _ => ht
  | n + 1, h => by
    have h1 := h n (by omega)
    have h2 := sw_aw_b (fr := fr) (to := to) (D := D) (x := x) ht n (fun z hz => h z (by omega))
    rw [sw_aw]
    split
    · split
      · exact h1
      · split
        · exact h1
        · exact h2
    · exact h2
/-- what holds of the reference's winding -/
def sw_mv (N : Int) (τ : sw_S) : Prop := (10 ≤ τ 26 0 ∧ τ 26 0 ≤ 400) ∧ (1 ≤ τ 26 1 ∧ τ 26 1 ≤ 20) ∧ (0 ≤ τ 26 3 ∧ τ 26 3 ≤ 6) ∧ (0 ≤ τ 26 10 ∧ τ 26 10 ≤ τ 26 0) ∧ (-20 ≤ τ 26 11 ∧ τ 26 11 ≤ 20) ∧ (1 ≤ τ 26 17 ∧ τ 26 17 ≤ 10) ∧ (0 ≤ τ 26 16 ∧ τ 26 16 ≤ 20) ∧ (-1000 ≤ τ 33 0 ∧ τ 33 0 ≤ 1000) ∧ (-1000 ≤ τ 33 1 ∧ τ 33 1 ≤ 1000) ∧ (-1000 ≤ τ 33 2 ∧ τ 33 2 ≤ 1000) ∧ (0 ≤ τ 26 18 ∧ τ 26 18 ≤ N) ∧ (0 ≤ τ 26 19 ∧ τ 26 19 ≤ N) ∧ (0 ≤ τ 26 20 ∧ τ 26 20 ≤ N) ∧ (∀ x : Int, 1 ≤ (sw_aw (τ 27) (τ 28) (τ 29) (τ 26 1) (τ 26 0) x (τ 26 3).toNat).1 ∧ (sw_aw (τ 27) (τ 28) (τ 29) (τ 26 1) (τ 26 0) x (τ 26 3).toNat).1 ≤ 20) ∧ (τ 26 12 = 1 → (0 ≤ τ 26 23 ∧ τ 26 23 < τ 26 22 ∧ τ 26 22 ≤ 400) ∧ (-20 ≤ τ 34 (τ 26 23).toNat ∧ τ 34 (τ 26 23).toNat ≤ 20))
theorem sw_jp_v {N : Int} {a τ : sw_S} (J : sw_jp N a τ) : sw_mv N τ := by
  obtain ⟨c, g, ⟨e0, e1, e10, e11, e12, e16, e17, e18, e19, e20, e32, e33, e39, er⟩, z3, z4, z5, z6⟩ := J
  have hr1 := fun z => sw_ck_ro c z
  obtain ⟨-, hD, hV, hL, hpl, hspd, hbr, her, hmg, h61, h514, h513, h59, hro⟩ := c
  have k0 := her 0 (by decide)
  have k1 := her 1 (by decide)
  have k2 := her 2 (by decide)
  rw [← e33 0 (by decide)] at k0
  rw [← e33 1 (by decide)] at k1
  rw [← e33 2 (by decide)] at k2
  refine ⟨by omega, by omega, by omega, by omega, by omega, by omega, by omega, k0, k1, k2, by omega, by omega, by omega, fun x => sw_aw_b (by omega) _ (fun z hz => (z5 z (by omega)).2.2.2), fun z => ?_⟩
  rw [e12] at z
  obtain ⟨r1, r2, r3⟩ := er z
  have q := hr1 z
  refine ⟨by omega, ?_⟩
  rw [r2, r3 _ (by omega)]
  omega
theorem sw_br {N : Int} {a τ : sw_S} (J : sw_jp N a τ) (z : a 5 9 = 1) : (0 < sw_cnt (a 8) 8 ∨ sw_la (a 2) (a 1 0) (a 1 1) (sw_told (a 5 7) (a 9 0) (a 9 1) (a 9 2)) + a 5 11 < sw_abs (a 10 (a 5 6).toNat)) ↔ (0 < sw_cnt (τ 32) 8 ∨ (sw_aw (τ 27) (τ 28) (τ 29) (τ 26 1) (τ 26 0) (τ 26 10 + (τ 33 0 + τ 33 1 + τ 33 2 - min (τ 33 0) (min (τ 33 1) (τ 33 2)) - max (τ 33 0) (max (τ 33 1) (τ 33 2)))) (τ 26 3).toNat).1 + τ 26 16 < sw_abs (τ 34 (τ 26 23).toNat)) := by
  obtain ⟨c, g, ⟨e0, e1, e10, e11, e12, e16, e17, e18, e19, e20, e32, e33, e39, er⟩, z3, z4, z5, z6⟩ := J
  have q := sw_ck_ro c z
  obtain ⟨-, hD, hV, hL, hpl, hspd, hbr, her, hmg, h61, h514, h513, h59, hro⟩ := c
  obtain ⟨r1, r2, r3⟩ := er z
  have ev : τ 34 (τ 26 23).toNat = a 10 (a 5 6).toNat := by rw [r2]; exact r3 _ (by omega)
  have et : (τ 26 10 + (τ 33 0 + τ 33 1 + τ 33 2 - min (τ 33 0) (min (τ 33 1) (τ 33 2)) - max (τ 33 0) (max (τ 33 1) (τ 33 2)))) = sw_told (a 5 7) (a 9 0) (a 9 1) (a 9 2) := by
    rw [e33 0 (by decide), e33 1 (by decide), e33 2 (by decide), e10]
    unfold sw_told
    omega
  rw [et, ev, e16, sw_cnt_cong 8 e32, z3]
  generalize sw_told (a 5 7) (a 9 0) (a 9 1) (a 9 2) = x
  have ha : sw_abs (a 10 (a 5 6).toNat) ≤ a 1 1 := by unfold sw_abs; split <;> omega
  have hl : sw_la (a 2) (a 1 0) (a 1 1) x = (if (sw_aw (τ 27) (τ 28) (τ 29) (τ 26 1) (τ 26 0) x (a 1 3).toNat).1 < a 1 1 then (sw_aw (τ 27) (τ 28) (τ 29) (τ 26 1) (τ 26 0) x (a 1 3).toNat).1 else a 1 1) := by
    unfold sw_la
    by_cases h : 0 ≤ x ∧ x ≤ a 1 0
    · rw [if_pos h]
      have h6 := z6 x.toNat (by omega)
      unfold sw_lm at h6
      rw [e1, z3, show ((x.toNat : Nat) : Int) = x by omega] at h6
      rw [← h6, e1]
    · rw [if_neg h, sw_aw_out (by omega) _ (fun z hz => by have := z5 z (by omega); omega), e1]
      split <;> rfl
  rw [hl]
  split <;> omega
theorem sw_nx {N : Int} {a τ : sw_S} (J : sw_jp N a τ) : sw_mNP τ = sw_cNP a ∧ sw_mNV τ = sw_cNV a ∧ sw_mNH τ = sw_cNH a ∧ sw_mNE τ = sw_cNE a ∧ sw_mNB τ = sw_cNB a ∧ (sw_cNH a = 1 → sw_mNR τ = sw_cNR a ∧ a 5 9 = 1) := by
  have J0 := J
  obtain ⟨c, g, ⟨e0, e1, e10, e11, e12, e16, e17, e18, e19, e20, e32, e33, e39, er⟩, zz⟩ := J
  by_cases z : a 5 9 = 1
  · have z' : τ 26 12 = 1 := by rw [e12]; exact z
    have hb := sw_br J0 z
    obtain ⟨r1, r2, r3⟩ := er z
    have hro := (sw_ck_ro c z).2.2
    have ev : τ 34 (τ 26 23).toNat = a 10 (a 5 6).toNat := by rw [r2]; exact r3 _ (by omega)
    by_cases y : (0 < sw_cnt (a 8) 8 ∨ sw_la (a 2) (a 1 0) (a 1 1) (sw_told (a 5 7) (a 9 0) (a 9 1) (a 9 2)) + a 5 11 < sw_abs (a 10 (a 5 6).toNat))
    · have y' := hb.mp y
      refine ⟨?_, ?_, ?_, ?_, ?_, fun h => ?_⟩
      · unfold sw_mNP sw_cNP; rw [if_pos z, if_pos z', if_pos y, if_pos y', e0, e17, e10, e11]
      · unfold sw_mNV sw_cNV; rw [if_pos z, if_pos z', if_pos y, if_pos y', e0, e17, e10, e11]
      · unfold sw_mNH sw_cNH; rw [if_pos z, if_pos z', if_pos y, if_pos y', e0, e17, e10, e11]
      · unfold sw_mNE sw_cNE; rw [if_pos z, if_pos z', if_pos y, if_pos y', e19]
      · unfold sw_mNB sw_cNB; rw [if_pos z, if_pos z', if_pos y, if_pos y', e20]
      · exfalso
        unfold sw_cNH at h
        rw [if_pos z, if_pos y] at h
        split at h <;> omega
    · have y' : ¬ (0 < sw_cnt (τ 32) 8 ∨ (sw_aw (τ 27) (τ 28) (τ 29) (τ 26 1) (τ 26 0) (τ 26 10 + (τ 33 0 + τ 33 1 + τ 33 2 - min (τ 33 0) (min (τ 33 1) (τ 33 2)) - max (τ 33 0) (max (τ 33 1) (τ 33 2)))) (τ 26 3).toNat).1 + τ 26 16 < sw_abs (τ 34 (τ 26 23).toNat)) := fun q => y (hb.mpr q)
      refine ⟨?_, ?_, ?_, ?_, ?_, fun h => ⟨?_, z⟩⟩
      · unfold sw_mNP sw_cNP; rw [if_pos z, if_pos z', if_neg y, if_neg y', e10, ev]
      · unfold sw_mNV sw_cNV; rw [if_pos z, if_pos z', if_neg y, if_neg y', ev, r1, r2]; split <;> split <;> omega
      · unfold sw_mNH sw_cNH; rw [if_pos z, if_pos z', if_neg y, if_neg y', r1, r2]; split <;> split <;> omega
      · unfold sw_mNE sw_cNE; rw [if_pos z, if_pos z', if_neg y, if_neg y', r1, r2, e19]; split <;> split <;> omega
      · unfold sw_mNB sw_cNB; rw [if_pos z, if_pos z', if_neg y, if_neg y', e20]
      · unfold sw_mNR sw_cNR; rw [if_pos z, if_pos z', if_neg y, if_neg y', r2]
  · have z' : ¬ τ 26 12 = 1 := by rw [e12]; exact z
    refine ⟨?_, ?_, ?_, ?_, ?_, fun h => ?_⟩
    · unfold sw_mNP sw_cNP; rw [if_neg z, if_neg z', e12, e0, e17, e10, e11]
    · unfold sw_mNV sw_cNV; rw [if_neg z, if_neg z', e12, e0, e17, e10, e11]
    · unfold sw_mNH sw_cNH; rw [if_neg z, if_neg z', e12, e0, e17, e10, e11]
    · unfold sw_mNE sw_cNE; rw [if_neg z, if_neg z', e19]
    · unfold sw_mNB sw_cNB; rw [if_neg z, if_neg z', e20]
    · exfalso
      unfold sw_cNH at h
      rw [if_neg z] at h
      split at h
      · split at h <;> omega
      · exact z h
theorem sw_jp_step {N : Int} {a a' τ τ' : sw_S} (J : sw_jp N a τ) (hN : N < 1000000) (hc : sw_cst a a') (hm : sw_mst τ τ') : sw_jp (N + 1) a' τ' := by
  have nx := sw_nx J
  obtain ⟨n1, n2, n3, n4, n5, n6⟩ := nx
  have v := sw_jp_v J
  obtain ⟨c, g, ⟨e0, e1, e10, e11, e12, e16, e17, e18, e19, e20, e32, e33, e39, er⟩, z3, z4, z5, z6⟩ := J
  have c' := sw_ck_step c hN hc
  obtain ⟨f, s7, s8, s9, s13, s14, s6, s61, sl⟩ := hc
  obtain ⟨m, t10, t11, t12, t19, t20, t23, t18, tl⟩ := hm
  have gc := c'.1
  have cr : ∀ i, i ≠ 7 → i ≠ 6 → i ≠ 5 → a' i = a i := fun i h1 h2 h3 => funext fun j => f i j h1 (by omega) (by omega)
  have mr : ∀ i, i ≠ 39 → i ≠ 26 → τ' i = τ i := fun i h1 h2 => funext fun j => m i j h1 (by omega)
  have gR : sw_g (sw_mNR τ) := by
    have b1 := g 26 23
    have b2 := g 26 22
    unfold sw_mNR
    by_cases z : τ 26 12 = 1
    · have q := (v.2.2.2.2.2.2.2.2.2.2.2.2.2.2 z).1
      rw [if_pos z]; split <;> omega
    · rw [if_neg z]; exact b1
  have lg : ∀ j, j < 120 → τ' 39 j = a' 7 j := fun j hj => by rw [tl j, sl j, n1, n2, n3, e18, e39 j hj]
  have m0 : ∀ j, ¬ (j = 10 ∨ j = 11 ∨ j = 12 ∨ j = 18 ∨ j = 19 ∨ j = 20 ∨ j = 23) → τ' 26 j = τ 26 j := fun j hj => m 26 j (by decide) (by omega)
  have a5 : ∀ j, ¬ (j = 6 ∨ j = 7 ∨ j = 8 ∨ j = 9 ∨ j = 13 ∨ j = 14) → a' 5 j = a 5 j := fun j hj => f 5 j (by decide) (by omega) (by omega)
  have k1 : a' 1 = a 1 := cr 1 (by decide) (by decide) (by decide)
  refine ⟨c', fun i j => ?_, ⟨by rw [m0 0 (by decide), k1]; exact e0, by rw [m0 1 (by decide), k1]; exact e1, by rw [t10, s7]; exact n1, by rw [t11, s8]; exact n2, by rw [t12, s9]; exact n3, by rw [m0 16 (by decide), a5 11 (by decide)]; exact e16, by rw [m0 17 (by decide), a5 12 (by decide)]; exact e17, by rw [t18, s61, e18], by rw [t19, s13]; exact n4, by rw [t20, s14]; exact n5, by rw [mr 32 (by decide) (by decide), cr 8 (by decide) (by decide) (by decide)]; exact e32, by rw [mr 33 (by decide) (by decide), cr 9 (by decide) (by decide) (by decide)]; exact e33, lg, fun z => ?_⟩, by rw [m0 3 (by decide), k1]; exact z3, by rw [k1]; exact z4, by rw [mr 27 (by decide) (by decide), mr 28 (by decide) (by decide), mr 29 (by decide) (by decide), k1]; exact z5, ?_⟩
  · by_cases h39 : i = 39
    · subst h39
      rw [tl j, n1, n2, n3]
      split
      · rw [← s7]; exact gc 5 7
      · split
        · rw [← s8]; exact gc 5 8
        · split
          · rw [← s9]; exact gc 5 9
          · exact g 39 j
    · by_cases h26 : i = 26 ∧ (j = 10 ∨ j = 11 ∨ j = 12 ∨ j = 18 ∨ j = 19 ∨ j = 20 ∨ j = 23)
      · obtain ⟨rfl, h⟩ := h26
        rcases h with rfl | rfl | rfl | rfl | rfl | rfl | rfl
        · rw [t10, n1, ← s7]; exact gc 5 7
        · rw [t11, n2, ← s8]; exact gc 5 8
        · rw [t12, n3, ← s9]; exact gc 5 9
        · rw [t18, e18, ← s61]; exact gc 6 1
        · rw [t19, n4, ← s13]; exact gc 5 13
        · rw [t20, n5, ← s14]; exact gc 5 14
        · rw [t23]; exact gR
      · rw [m i j h39 h26]; exact g i j
  · rw [s9] at z
    obtain ⟨y1, y2⟩ := n6 z
    obtain ⟨r1, r2, r3⟩ := er y2
    rw [m0 22 (by decide), a5 5 (by decide), t23, s6, mr 34 (by decide) (by decide), cr 10 (by decide) (by decide) (by decide)]
    exact ⟨r1, y1, r3⟩
  · rw [k1, cr 2 (by decide) (by decide) (by decide)]
    intro j hj
    rw [← z6 j hj]
    unfold sw_lm
    rw [mr 27 (by decide) (by decide), mr 28 (by decide) (by decide), mr 29 (by decide) (by decide), m0 0 (by decide), m0 1 (by decide), m0 3 (by decide)]
theorem sp_mbrakes (σ : sw_S) (hσ : sw_gs σ) (hD : 10 ≤ σ 26 0 ∧ σ 26 0 ≤ 400) (hpl : 0 ≤ σ 26 10 ∧ σ 26 10 ≤ σ 26 0) (hspd : -20 ≤ σ 26 11 ∧ σ 26 11 ≤ 20) (hbr : 1 ≤ σ 26 17 ∧ σ 26 17 ≤ 10) : sw_Con sw_ly sw_rho M_X8_brakes [.inr (.inr 26)] σ (fun r σ' => r = none ∧ (∀ i j, ¬ (i = 26 ∧ (j = 10 ∨ j = 11 ∨ j = 12)) → σ' i j = σ i j) ∧ σ' 26 10 = sw_sp (σ 26 0) (σ 26 17) (σ 26 10) (σ 26 11) ∧ σ' 26 11 = sw_sv (σ 26 0) (σ 26 17) (σ 26 10) (σ 26 11) ∧ σ' 26 12 = (if sw_sv (σ 26 0) (σ 26 17) (σ 26 10) (σ 26 11) = 0 then 0 else 2)) := by
  refine sw_con (by decide) (Nat.le_of_ble_eq_true rfl) ?_
  refine sw_blk k_X8_brakes 2 4 [(0, .inr (.inr 26))] [.inl (σ 26 11)] σ rfl ?_
  refine sw_if_le k_X8_brakes rfl (hσ 26 _) 38 7 (by decide) rfl (fun c1 => ?_) (fun c1 => ?_)
  · refine sw_blk k_X8_brakes 6 48 [(0, .inr (.inr 26))] [.inl (σ 26 17), .inl (-(σ 26 11)), .inr (.inr 26)] σ rfl ?_
    refine sw_icmp_le k_X8_brakes rfl (by omega) (hσ 26 _) 63 51 (by decide) rfl (fun c2 => ?_) (fun c2 => ?_)
    · refine sw_blk k_X8_brakes 12 85 [(0, .inr (.inr 26))] [.inl ((σ 26 10) + 0), .inr (.inr 26)] (sw_u (sw_u σ 26 11 0) 26 10 ((σ 26 10) + 0)) rfl ?_
      refine sw_callV k_X8_brakes rfl cV_X8_isPlace ml_X8_103 ⟨by decide, by decide⟩ 26 rfl rfl [.inl ((σ 26 10) + 0)] [] rfl rfl (Nat.le_of_ble_eq_true rfl) 88 rfl (sp_mPlace (sw_u (sw_u σ 26 11 0) 26 10 ((σ 26 10) + 0)) ((σ 26 10) + 0) (by omega) (hσ 26 0)) (fun r4 σ5 hq6 => ?_)
      obtain ⟨rfl, ⟨p3, rfl⟩ | ⟨p3, rfl⟩⟩ := hq6
      · have p3 : 0 ≤ ((σ 26 10) + 0) ∧ ((σ 26 10) + 0) ≤ (σ 26 0) := p3
        refine sw_blk k_X8_brakes 0 88 [(0, .inr (.inr 26))] [.inl 1] (sw_u (sw_u σ 26 11 0) 26 10 ((σ 26 10) + 0)) rfl ?_
        refine sw_if_ne k_X8_brakes rfl (by decide) 115 91 (by decide) rfl (fun _ => ?_) (fun c => absurd c (by decide))
        refine sw_blk k_X8_brakes 3 120 [(0, .inr (.inr 26))] [.inl 0, .inr (.inr 26)] (sw_u (sw_u σ 26 11 0) 26 10 ((σ 26 10) + 0)) rfl ?_
        refine sw_if_ne k_X8_brakes rfl (by decide) 127 123 (by decide) rfl (fun c => absurd (by decide) c) (fun _ => ?_)
        refine sw_blk k_X8_brakes 3 131 [(0, .inr (.inr 26))] [] (sw_u (sw_u (sw_u σ 26 11 0) 26 10 ((σ 26 10) + 0)) 26 12 0) rfl ?_
        refine sw_vreturn k_X8_brakes rfl rfl ?_
        exact ⟨rfl, (fun i j h => by unfold sw_u; (repeat rw [if_neg (by omega)])), (show (((σ 26 10) + 0) : Int) = sw_sp (σ 26 0) (σ 26 17) (σ 26 10) (σ 26 11) from by unfold sw_sp sw_s1; omega), (show (0 : Int) = sw_sv (σ 26 0) (σ 26 17) (σ 26 10) (σ 26 11) from by unfold sw_sv sw_s1; omega), (show (0 : Int) = (if sw_sv (σ 26 0) (σ 26 17) (σ 26 10) (σ 26 11) = 0 then 0 else 2) from by unfold sw_sv sw_s1; omega)⟩
      · have p3 : ¬ (0 ≤ ((σ 26 10) + 0) ∧ ((σ 26 10) + 0) ≤ (σ 26 0)) := p3
        refine sw_blk k_X8_brakes 0 88 [(0, .inr (.inr 26))] [.inl 0] (sw_u (sw_u σ 26 11 0) 26 10 ((σ 26 10) + 0)) rfl ?_
        refine sw_if_ne k_X8_brakes rfl (by decide) 115 91 (by decide) rfl (fun c => absurd (by decide) c) (fun _ => ?_)
        refine sw_blk k_X8_brakes 3 96 [(0, .inr (.inr 26))] [.inl ((σ 26 10) + 0), .inr (.inr 26)] (sw_u (sw_u σ 26 11 0) 26 10 ((σ 26 10) + 0)) rfl ?_
        refine sw_if_ge k_X8_brakes rfl (by omega) 103 99 (by decide) rfl (fun c7 => ?_) (fun c7 => ?_)
        · refine sw_blk k_X8_brakes 9 120 [(0, .inr (.inr 26))] [.inl 0, .inr (.inr 26)] (sw_u (sw_u (sw_u (sw_u σ 26 11 0) 26 10 ((σ 26 10) + 0)) 26 10 (σ 26 0)) 26 11 0) rfl ?_
          refine sw_if_ne k_X8_brakes rfl (by decide) 127 123 (by decide) rfl (fun c => absurd (by decide) c) (fun _ => ?_)
          refine sw_blk k_X8_brakes 3 131 [(0, .inr (.inr 26))] [] (sw_u (sw_u (sw_u (sw_u (sw_u σ 26 11 0) 26 10 ((σ 26 10) + 0)) 26 10 (σ 26 0)) 26 11 0) 26 12 0) rfl ?_
          refine sw_vreturn k_X8_brakes rfl rfl ?_
          exact ⟨rfl, (fun i j h => by unfold sw_u; (repeat rw [if_neg (by omega)])), (show ((σ 26 0) : Int) = sw_sp (σ 26 0) (σ 26 17) (σ 26 10) (σ 26 11) from by unfold sw_sp sw_s1; omega), (show (0 : Int) = sw_sv (σ 26 0) (σ 26 17) (σ 26 10) (σ 26 11) from by unfold sw_sv sw_s1; omega), (show (0 : Int) = (if sw_sv (σ 26 0) (σ 26 17) (σ 26 10) (σ 26 11) = 0 then 0 else 2) from by unfold sw_sv sw_s1; omega)⟩
        · refine sw_blk k_X8_brakes 9 120 [(0, .inr (.inr 26))] [.inl 0, .inr (.inr 26)] (sw_u (sw_u (sw_u (sw_u σ 26 11 0) 26 10 ((σ 26 10) + 0)) 26 10 0) 26 11 0) rfl ?_
          refine sw_if_ne k_X8_brakes rfl (by decide) 127 123 (by decide) rfl (fun c => absurd (by decide) c) (fun _ => ?_)
          refine sw_blk k_X8_brakes 3 131 [(0, .inr (.inr 26))] [] (sw_u (sw_u (sw_u (sw_u (sw_u σ 26 11 0) 26 10 ((σ 26 10) + 0)) 26 10 0) 26 11 0) 26 12 0) rfl ?_
          refine sw_vreturn k_X8_brakes rfl rfl ?_
          exact ⟨rfl, (fun i j h => by unfold sw_u; (repeat rw [if_neg (by omega)])), (show (0 : Int) = sw_sp (σ 26 0) (σ 26 17) (σ 26 10) (σ 26 11) from by unfold sw_sp sw_s1; omega), (show (0 : Int) = sw_sv (σ 26 0) (σ 26 17) (σ 26 10) (σ 26 11) from by unfold sw_sv sw_s1; omega), (show (0 : Int) = (if sw_sv (σ 26 0) (σ 26 17) (σ 26 10) (σ 26 11) = 0 then 0 else 2) from by unfold sw_sv sw_s1; omega)⟩
    · refine sw_blk k_X8_brakes 17 85 [(0, .inr (.inr 26))] [.inl ((σ 26 10) + ((σ 26 11) + (σ 26 17))), .inr (.inr 26)] (sw_u (sw_u σ 26 11 ((σ 26 11) + (σ 26 17))) 26 10 ((σ 26 10) + ((σ 26 11) + (σ 26 17)))) rfl ?_
      refine sw_callV k_X8_brakes rfl cV_X8_isPlace ml_X8_103 ⟨by decide, by decide⟩ 26 rfl rfl [.inl ((σ 26 10) + ((σ 26 11) + (σ 26 17)))] [] rfl rfl (Nat.le_of_ble_eq_true rfl) 88 rfl (sp_mPlace (sw_u (sw_u σ 26 11 ((σ 26 11) + (σ 26 17))) 26 10 ((σ 26 10) + ((σ 26 11) + (σ 26 17)))) ((σ 26 10) + ((σ 26 11) + (σ 26 17))) (by omega) (hσ 26 0)) (fun r9 σ10 hq11 => ?_)
      obtain ⟨rfl, ⟨p8, rfl⟩ | ⟨p8, rfl⟩⟩ := hq11
      · have p8 : 0 ≤ ((σ 26 10) + ((σ 26 11) + (σ 26 17))) ∧ ((σ 26 10) + ((σ 26 11) + (σ 26 17))) ≤ (σ 26 0) := p8
        refine sw_blk k_X8_brakes 0 88 [(0, .inr (.inr 26))] [.inl 1] (sw_u (sw_u σ 26 11 ((σ 26 11) + (σ 26 17))) 26 10 ((σ 26 10) + ((σ 26 11) + (σ 26 17)))) rfl ?_
        refine sw_if_ne k_X8_brakes rfl (by decide) 115 91 (by decide) rfl (fun _ => ?_) (fun c => absurd c (by decide))
        refine sw_blk k_X8_brakes 3 120 [(0, .inr (.inr 26))] [.inl ((σ 26 11) + (σ 26 17)), .inr (.inr 26)] (sw_u (sw_u σ 26 11 ((σ 26 11) + (σ 26 17))) 26 10 ((σ 26 10) + ((σ 26 11) + (σ 26 17)))) rfl ?_
        refine sw_if_ne k_X8_brakes rfl (by omega) 127 123 (by decide) rfl (fun c12 => ?_) (fun c12 => ?_)
        · refine sw_blk k_X8_brakes 2 131 [(0, .inr (.inr 26))] [] (sw_u (sw_u (sw_u σ 26 11 ((σ 26 11) + (σ 26 17))) 26 10 ((σ 26 10) + ((σ 26 11) + (σ 26 17)))) 26 12 2) rfl ?_
          refine sw_vreturn k_X8_brakes rfl rfl ?_
          exact ⟨rfl, (fun i j h => by unfold sw_u; (repeat rw [if_neg (by omega)])), (show (((σ 26 10) + ((σ 26 11) + (σ 26 17))) : Int) = sw_sp (σ 26 0) (σ 26 17) (σ 26 10) (σ 26 11) from by unfold sw_sp sw_s1; omega), (show (((σ 26 11) + (σ 26 17)) : Int) = sw_sv (σ 26 0) (σ 26 17) (σ 26 10) (σ 26 11) from by unfold sw_sv sw_s1; omega), (show (2 : Int) = (if sw_sv (σ 26 0) (σ 26 17) (σ 26 10) (σ 26 11) = 0 then 0 else 2) from by unfold sw_sv sw_s1; omega)⟩
        · refine sw_blk k_X8_brakes 3 131 [(0, .inr (.inr 26))] [] (sw_u (sw_u (sw_u σ 26 11 ((σ 26 11) + (σ 26 17))) 26 10 ((σ 26 10) + ((σ 26 11) + (σ 26 17)))) 26 12 0) rfl ?_
          refine sw_vreturn k_X8_brakes rfl rfl ?_
          exact ⟨rfl, (fun i j h => by unfold sw_u; (repeat rw [if_neg (by omega)])), (show (((σ 26 10) + ((σ 26 11) + (σ 26 17))) : Int) = sw_sp (σ 26 0) (σ 26 17) (σ 26 10) (σ 26 11) from by unfold sw_sp sw_s1; omega), (show (((σ 26 11) + (σ 26 17)) : Int) = sw_sv (σ 26 0) (σ 26 17) (σ 26 10) (σ 26 11) from by unfold sw_sv sw_s1; omega), (show (0 : Int) = (if sw_sv (σ 26 0) (σ 26 17) (σ 26 10) (σ 26 11) = 0 then 0 else 2) from by unfold sw_sv sw_s1; omega)⟩
      · have p8 : ¬ (0 ≤ ((σ 26 10) + ((σ 26 11) + (σ 26 17))) ∧ ((σ 26 10) + ((σ 26 11) + (σ 26 17))) ≤ (σ 26 0)) := p8
        refine sw_blk k_X8_brakes 0 88 [(0, .inr (.inr 26))] [.inl 0] (sw_u (sw_u σ 26 11 ((σ 26 11) + (σ 26 17))) 26 10 ((σ 26 10) + ((σ 26 11) + (σ 26 17)))) rfl ?_
        refine sw_if_ne k_X8_brakes rfl (by decide) 115 91 (by decide) rfl (fun c => absurd (by decide) c) (fun _ => ?_)
        refine sw_blk k_X8_brakes 3 96 [(0, .inr (.inr 26))] [.inl ((σ 26 10) + ((σ 26 11) + (σ 26 17))), .inr (.inr 26)] (sw_u (sw_u σ 26 11 ((σ 26 11) + (σ 26 17))) 26 10 ((σ 26 10) + ((σ 26 11) + (σ 26 17)))) rfl ?_
        refine sw_if_ge k_X8_brakes rfl (by omega) 103 99 (by decide) rfl (fun c13 => ?_) (fun c13 => ?_)
        · refine sw_blk k_X8_brakes 9 120 [(0, .inr (.inr 26))] [.inl 0, .inr (.inr 26)] (sw_u (sw_u (sw_u (sw_u σ 26 11 ((σ 26 11) + (σ 26 17))) 26 10 ((σ 26 10) + ((σ 26 11) + (σ 26 17)))) 26 10 (σ 26 0)) 26 11 0) rfl ?_
          refine sw_if_ne k_X8_brakes rfl (by decide) 127 123 (by decide) rfl (fun c => absurd (by decide) c) (fun _ => ?_)
          refine sw_blk k_X8_brakes 3 131 [(0, .inr (.inr 26))] [] (sw_u (sw_u (sw_u (sw_u (sw_u σ 26 11 ((σ 26 11) + (σ 26 17))) 26 10 ((σ 26 10) + ((σ 26 11) + (σ 26 17)))) 26 10 (σ 26 0)) 26 11 0) 26 12 0) rfl ?_
          refine sw_vreturn k_X8_brakes rfl rfl ?_
          exact ⟨rfl, (fun i j h => by unfold sw_u; (repeat rw [if_neg (by omega)])), (show ((σ 26 0) : Int) = sw_sp (σ 26 0) (σ 26 17) (σ 26 10) (σ 26 11) from by unfold sw_sp sw_s1; omega), (show (0 : Int) = sw_sv (σ 26 0) (σ 26 17) (σ 26 10) (σ 26 11) from by unfold sw_sv sw_s1; omega), (show (0 : Int) = (if sw_sv (σ 26 0) (σ 26 17) (σ 26 10) (σ 26 11) = 0 then 0 else 2) from by unfold sw_sv sw_s1; omega)⟩
        · refine sw_blk k_X8_brakes 9 120 [(0, .inr (.inr 26))] [.inl 0, .inr (.inr 26)] (sw_u (sw_u (sw_u (sw_u σ 26 11 ((σ 26 11) + (σ 26 17))) 26 10 ((σ 26 10) + ((σ 26 11) + (σ 26 17)))) 26 10 0) 26 11 0) rfl ?_
          refine sw_if_ne k_X8_brakes rfl (by decide) 127 123 (by decide) rfl (fun c => absurd (by decide) c) (fun _ => ?_)
          refine sw_blk k_X8_brakes 3 131 [(0, .inr (.inr 26))] [] (sw_u (sw_u (sw_u (sw_u (sw_u σ 26 11 ((σ 26 11) + (σ 26 17))) 26 10 ((σ 26 10) + ((σ 26 11) + (σ 26 17)))) 26 10 0) 26 11 0) 26 12 0) rfl ?_
          refine sw_vreturn k_X8_brakes rfl rfl ?_
          exact ⟨rfl, (fun i j h => by unfold sw_u; (repeat rw [if_neg (by omega)])), (show (0 : Int) = sw_sp (σ 26 0) (σ 26 17) (σ 26 10) (σ 26 11) from by unfold sw_sp sw_s1; omega), (show (0 : Int) = sw_sv (σ 26 0) (σ 26 17) (σ 26 10) (σ 26 11) from by unfold sw_sv sw_s1; omega), (show (0 : Int) = (if sw_sv (σ 26 0) (σ 26 17) (σ 26 10) (σ 26 11) = 0 then 0 else 2) from by unfold sw_sv sw_s1; omega)⟩
  · refine sw_blk k_X8_brakes 5 16 [(0, .inr (.inr 26))] [.inl (σ 26 17), .inl (σ 26 11), .inr (.inr 26)] σ rfl ?_
    refine sw_icmp_le k_X8_brakes rfl (hσ 26 _) (hσ 26 _) 31 19 (by decide) rfl (fun c14 => ?_) (fun c14 => ?_)
    · refine sw_blk k_X8_brakes 13 85 [(0, .inr (.inr 26))] [.inl ((σ 26 10) + 0), .inr (.inr 26)] (sw_u (sw_u σ 26 11 0) 26 10 ((σ 26 10) + 0)) rfl ?_
      refine sw_callV k_X8_brakes rfl cV_X8_isPlace ml_X8_103 ⟨by decide, by decide⟩ 26 rfl rfl [.inl ((σ 26 10) + 0)] [] rfl rfl (Nat.le_of_ble_eq_true rfl) 88 rfl (sp_mPlace (sw_u (sw_u σ 26 11 0) 26 10 ((σ 26 10) + 0)) ((σ 26 10) + 0) (by omega) (hσ 26 0)) (fun r16 σ17 hq18 => ?_)
      obtain ⟨rfl, ⟨p15, rfl⟩ | ⟨p15, rfl⟩⟩ := hq18
      · have p15 : 0 ≤ ((σ 26 10) + 0) ∧ ((σ 26 10) + 0) ≤ (σ 26 0) := p15
        refine sw_blk k_X8_brakes 0 88 [(0, .inr (.inr 26))] [.inl 1] (sw_u (sw_u σ 26 11 0) 26 10 ((σ 26 10) + 0)) rfl ?_
        refine sw_if_ne k_X8_brakes rfl (by decide) 115 91 (by decide) rfl (fun _ => ?_) (fun c => absurd c (by decide))
        refine sw_blk k_X8_brakes 3 120 [(0, .inr (.inr 26))] [.inl 0, .inr (.inr 26)] (sw_u (sw_u σ 26 11 0) 26 10 ((σ 26 10) + 0)) rfl ?_
        refine sw_if_ne k_X8_brakes rfl (by decide) 127 123 (by decide) rfl (fun c => absurd (by decide) c) (fun _ => ?_)
        refine sw_blk k_X8_brakes 3 131 [(0, .inr (.inr 26))] [] (sw_u (sw_u (sw_u σ 26 11 0) 26 10 ((σ 26 10) + 0)) 26 12 0) rfl ?_
        refine sw_vreturn k_X8_brakes rfl rfl ?_
        exact ⟨rfl, (fun i j h => by unfold sw_u; (repeat rw [if_neg (by omega)])), (show (((σ 26 10) + 0) : Int) = sw_sp (σ 26 0) (σ 26 17) (σ 26 10) (σ 26 11) from by unfold sw_sp sw_s1; omega), (show (0 : Int) = sw_sv (σ 26 0) (σ 26 17) (σ 26 10) (σ 26 11) from by unfold sw_sv sw_s1; omega), (show (0 : Int) = (if sw_sv (σ 26 0) (σ 26 17) (σ 26 10) (σ 26 11) = 0 then 0 else 2) from by unfold sw_sv sw_s1; omega)⟩
      · have p15 : ¬ (0 ≤ ((σ 26 10) + 0) ∧ ((σ 26 10) + 0) ≤ (σ 26 0)) := p15
        refine sw_blk k_X8_brakes 0 88 [(0, .inr (.inr 26))] [.inl 0] (sw_u (sw_u σ 26 11 0) 26 10 ((σ 26 10) + 0)) rfl ?_
        refine sw_if_ne k_X8_brakes rfl (by decide) 115 91 (by decide) rfl (fun c => absurd (by decide) c) (fun _ => ?_)
        refine sw_blk k_X8_brakes 3 96 [(0, .inr (.inr 26))] [.inl ((σ 26 10) + 0), .inr (.inr 26)] (sw_u (sw_u σ 26 11 0) 26 10 ((σ 26 10) + 0)) rfl ?_
        refine sw_if_ge k_X8_brakes rfl (by omega) 103 99 (by decide) rfl (fun c19 => ?_) (fun c19 => ?_)
        · refine sw_blk k_X8_brakes 9 120 [(0, .inr (.inr 26))] [.inl 0, .inr (.inr 26)] (sw_u (sw_u (sw_u (sw_u σ 26 11 0) 26 10 ((σ 26 10) + 0)) 26 10 (σ 26 0)) 26 11 0) rfl ?_
          refine sw_if_ne k_X8_brakes rfl (by decide) 127 123 (by decide) rfl (fun c => absurd (by decide) c) (fun _ => ?_)
          refine sw_blk k_X8_brakes 3 131 [(0, .inr (.inr 26))] [] (sw_u (sw_u (sw_u (sw_u (sw_u σ 26 11 0) 26 10 ((σ 26 10) + 0)) 26 10 (σ 26 0)) 26 11 0) 26 12 0) rfl ?_
          refine sw_vreturn k_X8_brakes rfl rfl ?_
          exact ⟨rfl, (fun i j h => by unfold sw_u; (repeat rw [if_neg (by omega)])), (show ((σ 26 0) : Int) = sw_sp (σ 26 0) (σ 26 17) (σ 26 10) (σ 26 11) from by unfold sw_sp sw_s1; omega), (show (0 : Int) = sw_sv (σ 26 0) (σ 26 17) (σ 26 10) (σ 26 11) from by unfold sw_sv sw_s1; omega), (show (0 : Int) = (if sw_sv (σ 26 0) (σ 26 17) (σ 26 10) (σ 26 11) = 0 then 0 else 2) from by unfold sw_sv sw_s1; omega)⟩
        · refine sw_blk k_X8_brakes 9 120 [(0, .inr (.inr 26))] [.inl 0, .inr (.inr 26)] (sw_u (sw_u (sw_u (sw_u σ 26 11 0) 26 10 ((σ 26 10) + 0)) 26 10 0) 26 11 0) rfl ?_
          refine sw_if_ne k_X8_brakes rfl (by decide) 127 123 (by decide) rfl (fun c => absurd (by decide) c) (fun _ => ?_)
          refine sw_blk k_X8_brakes 3 131 [(0, .inr (.inr 26))] [] (sw_u (sw_u (sw_u (sw_u (sw_u σ 26 11 0) 26 10 ((σ 26 10) + 0)) 26 10 0) 26 11 0) 26 12 0) rfl ?_
          refine sw_vreturn k_X8_brakes rfl rfl ?_
          exact ⟨rfl, (fun i j h => by unfold sw_u; (repeat rw [if_neg (by omega)])), (show (0 : Int) = sw_sp (σ 26 0) (σ 26 17) (σ 26 10) (σ 26 11) from by unfold sw_sp sw_s1; omega), (show (0 : Int) = sw_sv (σ 26 0) (σ 26 17) (σ 26 10) (σ 26 11) from by unfold sw_sv sw_s1; omega), (show (0 : Int) = (if sw_sv (σ 26 0) (σ 26 17) (σ 26 10) (σ 26 11) = 0 then 0 else 2) from by unfold sw_sv sw_s1; omega)⟩
    · refine sw_blk k_X8_brakes 18 85 [(0, .inr (.inr 26))] [.inl ((σ 26 10) + ((σ 26 11) - (σ 26 17))), .inr (.inr 26)] (sw_u (sw_u σ 26 11 ((σ 26 11) - (σ 26 17))) 26 10 ((σ 26 10) + ((σ 26 11) - (σ 26 17)))) rfl ?_
      refine sw_callV k_X8_brakes rfl cV_X8_isPlace ml_X8_103 ⟨by decide, by decide⟩ 26 rfl rfl [.inl ((σ 26 10) + ((σ 26 11) - (σ 26 17)))] [] rfl rfl (Nat.le_of_ble_eq_true rfl) 88 rfl (sp_mPlace (sw_u (sw_u σ 26 11 ((σ 26 11) - (σ 26 17))) 26 10 ((σ 26 10) + ((σ 26 11) - (σ 26 17)))) ((σ 26 10) + ((σ 26 11) - (σ 26 17))) (by omega) (hσ 26 0)) (fun r21 σ22 hq23 => ?_)
      obtain ⟨rfl, ⟨p20, rfl⟩ | ⟨p20, rfl⟩⟩ := hq23
      · have p20 : 0 ≤ ((σ 26 10) + ((σ 26 11) - (σ 26 17))) ∧ ((σ 26 10) + ((σ 26 11) - (σ 26 17))) ≤ (σ 26 0) := p20
        refine sw_blk k_X8_brakes 0 88 [(0, .inr (.inr 26))] [.inl 1] (sw_u (sw_u σ 26 11 ((σ 26 11) - (σ 26 17))) 26 10 ((σ 26 10) + ((σ 26 11) - (σ 26 17)))) rfl ?_
        refine sw_if_ne k_X8_brakes rfl (by decide) 115 91 (by decide) rfl (fun _ => ?_) (fun c => absurd c (by decide))
        refine sw_blk k_X8_brakes 3 120 [(0, .inr (.inr 26))] [.inl ((σ 26 11) - (σ 26 17)), .inr (.inr 26)] (sw_u (sw_u σ 26 11 ((σ 26 11) - (σ 26 17))) 26 10 ((σ 26 10) + ((σ 26 11) - (σ 26 17)))) rfl ?_
        refine sw_if_ne k_X8_brakes rfl (by omega) 127 123 (by decide) rfl (fun c24 => ?_) (fun c24 => ?_)
        · refine sw_blk k_X8_brakes 2 131 [(0, .inr (.inr 26))] [] (sw_u (sw_u (sw_u σ 26 11 ((σ 26 11) - (σ 26 17))) 26 10 ((σ 26 10) + ((σ 26 11) - (σ 26 17)))) 26 12 2) rfl ?_
          refine sw_vreturn k_X8_brakes rfl rfl ?_
          exact ⟨rfl, (fun i j h => by unfold sw_u; (repeat rw [if_neg (by omega)])), (show (((σ 26 10) + ((σ 26 11) - (σ 26 17))) : Int) = sw_sp (σ 26 0) (σ 26 17) (σ 26 10) (σ 26 11) from by unfold sw_sp sw_s1; omega), (show (((σ 26 11) - (σ 26 17)) : Int) = sw_sv (σ 26 0) (σ 26 17) (σ 26 10) (σ 26 11) from by unfold sw_sv sw_s1; omega), (show (2 : Int) = (if sw_sv (σ 26 0) (σ 26 17) (σ 26 10) (σ 26 11) = 0 then 0 else 2) from by unfold sw_sv sw_s1; omega)⟩
        · refine sw_blk k_X8_brakes 3 131 [(0, .inr (.inr 26))] [] (sw_u (sw_u (sw_u σ 26 11 ((σ 26 11) - (σ 26 17))) 26 10 ((σ 26 10) + ((σ 26 11) - (σ 26 17)))) 26 12 0) rfl ?_
          refine sw_vreturn k_X8_brakes rfl rfl ?_
          exact ⟨rfl, (fun i j h => by unfold sw_u; (repeat rw [if_neg (by omega)])), (show (((σ 26 10) + ((σ 26 11) - (σ 26 17))) : Int) = sw_sp (σ 26 0) (σ 26 17) (σ 26 10) (σ 26 11) from by unfold sw_sp sw_s1; omega), (show (((σ 26 11) - (σ 26 17)) : Int) = sw_sv (σ 26 0) (σ 26 17) (σ 26 10) (σ 26 11) from by unfold sw_sv sw_s1; omega), (show (0 : Int) = (if sw_sv (σ 26 0) (σ 26 17) (σ 26 10) (σ 26 11) = 0 then 0 else 2) from by unfold sw_sv sw_s1; omega)⟩
      · have p20 : ¬ (0 ≤ ((σ 26 10) + ((σ 26 11) - (σ 26 17))) ∧ ((σ 26 10) + ((σ 26 11) - (σ 26 17))) ≤ (σ 26 0)) := p20
        refine sw_blk k_X8_brakes 0 88 [(0, .inr (.inr 26))] [.inl 0] (sw_u (sw_u σ 26 11 ((σ 26 11) - (σ 26 17))) 26 10 ((σ 26 10) + ((σ 26 11) - (σ 26 17)))) rfl ?_
        refine sw_if_ne k_X8_brakes rfl (by decide) 115 91 (by decide) rfl (fun c => absurd (by decide) c) (fun _ => ?_)
        refine sw_blk k_X8_brakes 3 96 [(0, .inr (.inr 26))] [.inl ((σ 26 10) + ((σ 26 11) - (σ 26 17))), .inr (.inr 26)] (sw_u (sw_u σ 26 11 ((σ 26 11) - (σ 26 17))) 26 10 ((σ 26 10) + ((σ 26 11) - (σ 26 17)))) rfl ?_
        refine sw_if_ge k_X8_brakes rfl (by omega) 103 99 (by decide) rfl (fun c25 => ?_) (fun c25 => ?_)
        · refine sw_blk k_X8_brakes 9 120 [(0, .inr (.inr 26))] [.inl 0, .inr (.inr 26)] (sw_u (sw_u (sw_u (sw_u σ 26 11 ((σ 26 11) - (σ 26 17))) 26 10 ((σ 26 10) + ((σ 26 11) - (σ 26 17)))) 26 10 (σ 26 0)) 26 11 0) rfl ?_
          refine sw_if_ne k_X8_brakes rfl (by decide) 127 123 (by decide) rfl (fun c => absurd (by decide) c) (fun _ => ?_)
          refine sw_blk k_X8_brakes 3 131 [(0, .inr (.inr 26))] [] (sw_u (sw_u (sw_u (sw_u (sw_u σ 26 11 ((σ 26 11) - (σ 26 17))) 26 10 ((σ 26 10) + ((σ 26 11) - (σ 26 17)))) 26 10 (σ 26 0)) 26 11 0) 26 12 0) rfl ?_
          refine sw_vreturn k_X8_brakes rfl rfl ?_
          exact ⟨rfl, (fun i j h => by unfold sw_u; (repeat rw [if_neg (by omega)])), (show ((σ 26 0) : Int) = sw_sp (σ 26 0) (σ 26 17) (σ 26 10) (σ 26 11) from by unfold sw_sp sw_s1; omega), (show (0 : Int) = sw_sv (σ 26 0) (σ 26 17) (σ 26 10) (σ 26 11) from by unfold sw_sv sw_s1; omega), (show (0 : Int) = (if sw_sv (σ 26 0) (σ 26 17) (σ 26 10) (σ 26 11) = 0 then 0 else 2) from by unfold sw_sv sw_s1; omega)⟩
        · refine sw_blk k_X8_brakes 9 120 [(0, .inr (.inr 26))] [.inl 0, .inr (.inr 26)] (sw_u (sw_u (sw_u (sw_u σ 26 11 ((σ 26 11) - (σ 26 17))) 26 10 ((σ 26 10) + ((σ 26 11) - (σ 26 17)))) 26 10 0) 26 11 0) rfl ?_
          refine sw_if_ne k_X8_brakes rfl (by decide) 127 123 (by decide) rfl (fun c => absurd (by decide) c) (fun _ => ?_)
          refine sw_blk k_X8_brakes 3 131 [(0, .inr (.inr 26))] [] (sw_u (sw_u (sw_u (sw_u (sw_u σ 26 11 ((σ 26 11) - (σ 26 17))) 26 10 ((σ 26 10) + ((σ 26 11) - (σ 26 17)))) 26 10 0) 26 11 0) 26 12 0) rfl ?_
          refine sw_vreturn k_X8_brakes rfl rfl ?_
          exact ⟨rfl, (fun i j h => by unfold sw_u; (repeat rw [if_neg (by omega)])), (show (0 : Int) = sw_sp (σ 26 0) (σ 26 17) (σ 26 10) (σ 26 11) from by unfold sw_sp sw_s1; omega), (show (0 : Int) = sw_sv (σ 26 0) (σ 26 17) (σ 26 10) (σ 26 11) from by unfold sw_sv sw_s1; omega), (show (0 : Int) = (if sw_sv (σ 26 0) (σ 26 17) (σ 26 10) (σ 26 11) = 0 then 0 else 2) from by unfold sw_sv sw_s1; omega)⟩
theorem sp_mrides (σ : sw_S) (hσ : sw_gs σ) (N : Int) (hN : N < 1000000) (v : sw_mv N σ) (h12 : σ 26 12 = 1) : sw_Con sw_ly sw_rho M_X8_rides [.inr (.inr 26)] σ (fun r σ' => r = none ∧ sw_mmv σ σ') := by
  refine sw_con (by decide) (Nat.le_of_ble_eq_true rfl) ?_
  obtain ⟨hD, hV, hz, hpl, hspd, hbr, hmg, h0, h1, h2, hti, hen, hbk, haw, hrd⟩ := v
  have hrd := hrd h12
  refine sw_blk k_X8_rides 4 8 [(0, .inr (.inr 26))] [.inl (σ 26 23), .inr (.inr 34)] σ rfl ?_
  refine sw_iald k_X8_rides rfl (i := 34) (n := 600) rfl (by decide) (by omega) (by omega) 9 rfl ?_
  refine sw_blk k_X8_rides 2 11 [(1, .inl (σ 34 ((σ 26 23).toNat))), (0, .inr (.inr 26))] [.inl (σ 34 ((σ 26 23).toNat))] σ rfl ?_
  refine sw_if_ge k_X8_rides rfl (hσ 34 _) 19 14 (by decide) rfl (fun c1 => ?_) (fun c1 => ?_)
  · refine sw_blk k_X8_rides 3 22 [(2, .inl (σ 34 ((σ 26 23).toNat))), (1, .inl (σ 34 ((σ 26 23).toNat))), (0, .inr (.inr 26))] [.inr (.inr 26)] σ rfl ?_
    refine sw_callV k_X8_rides rfl cV_X8_opens ml_X8_132 ⟨by decide, by decide⟩ 26 rfl rfl [] [] rfl rfl (Nat.le_of_ble_eq_true rfl) 25 rfl (sp_opens σ (fun j => hσ 32 j)) (fun r2 σ3 hq4 => ?_)
    obtain ⟨rfl, rfl⟩ := hq4
    refine sw_blk k_X8_rides 0 25 [(2, .inl (σ 34 ((σ 26 23).toNat))), (1, .inl (σ 34 ((σ 26 23).toNat))), (0, .inr (.inr 26))] [.inl (sw_cnt (σ 32) 8)] σ rfl ?_
    refine sw_if_gt k_X8_rides rfl (by have := sw_cnt_le (σ 32) 8; omega) 45 28 (by decide) rfl (fun c5 => ?_) (fun c5 => ?_)
    · refine sw_blk k_X8_rides 11 64 [(2, .inl (σ 34 ((σ 26 23).toNat))), (1, .inl (σ 34 ((σ 26 23).toNat))), (0, .inr (.inr 26))] [.inr (.inr 26)] (sw_u (sw_u σ 26 20 ((σ 26 20) + 1)) 26 23 (σ 26 22)) rfl ?_
      refine sw_callV k_X8_rides rfl cV_X8_brakes ml_X8_151 ⟨by decide, by decide⟩ 26 rfl rfl [] [] rfl rfl (Nat.le_of_ble_eq_true rfl) 67 rfl (sp_mbrakes (sw_u (sw_u σ 26 20 ((σ 26 20) + 1)) 26 23 (σ 26 22)) (sw_gs_u (sw_gs_u hσ 26 20 (by omega)) 26 23 (hσ 26 22)) hD hpl hspd hbr) (fun r6 σ7 hq8 => ?_)
      obtain ⟨rfl, sf, s10, s11, s12⟩ := hq8
      have s10 : _ = sw_sp (σ 26 0) (σ 26 17) (σ 26 10) (σ 26 11) := s10
      have s11 : _ = sw_sv (σ 26 0) (σ 26 17) (σ 26 10) (σ 26 11) := s11
      have s12 : _ = (if sw_sv (σ 26 0) (σ 26 17) (σ 26 10) (σ 26 11) = 0 then (0 : Int) else 2) := s12
      refine sw_blk k_X8_rides 0 67 [(2, .inl (σ 34 ((σ 26 23).toNat))), (1, .inl (σ 34 ((σ 26 23).toNat))), (0, .inr (.inr 26))] [] σ7 rfl ?_
      refine sw_vreturn k_X8_rides rfl rfl ?_
      have hab9 := haw (σ 26 10 + (σ 33 0 + σ 33 1 + σ 33 2 - min (σ 33 0) (min (σ 33 1) (σ 33 2)) - max (σ 33 0) (max (σ 33 1) (σ 33 2))))
      have bb : (0 < sw_cnt (σ 32) 8 ∨ (sw_aw (σ 27) (σ 28) (σ 29) (σ 26 1) (σ 26 0) (σ 26 10 + (σ 33 0 + σ 33 1 + σ 33 2 - min (σ 33 0) (min (σ 33 1) (σ 33 2)) - max (σ 33 0) (max (σ 33 1) (σ 33 2)))) (σ 26 3).toNat).1 + σ 26 16 < sw_abs (σ 34 (σ 26 23).toNat)) := by (try rw [haw9]); unfold sw_abs; omega
      refine ⟨rfl, fun i j h => by rw [sf i j (by omega)]; unfold sw_u; (repeat rw [if_neg (by omega)]), ?_, ?_, ?_, ?_, ?_, ?_⟩
      · rw [s10]; unfold sw_mNP; rw [if_pos h12, if_pos bb]
      · rw [s11]; unfold sw_mNV; rw [if_pos h12, if_pos bb]
      · rw [s12]; unfold sw_mNH; rw [if_pos h12, if_pos bb]
      · rw [sf 26 19 (by omega)]; unfold sw_mNE; rw [if_pos h12, if_pos bb]; rfl
      · rw [sf 26 20 (by omega)]; unfold sw_mNB; rw [if_pos h12, if_pos bb]; rfl
      · rw [sf 26 23 (by omega)]; unfold sw_mNR; rw [if_pos h12, if_pos bb]; rfl
    · refine sw_blk k_X8_rides 3 31 [(2, .inl (σ 34 ((σ 26 23).toNat))), (1, .inl (σ 34 ((σ 26 23).toNat))), (0, .inr (.inr 26))] [.inr (.inr 26), .inr (.inr 26), .inl (σ 34 ((σ 26 23).toNat))] σ rfl ?_
      refine sw_callV k_X8_rides rfl cV_X8_told ml_X8_145 ⟨by decide, by decide⟩ 26 rfl rfl [] [.inr (.inr 26), .inl (σ 34 ((σ 26 23).toNat))] rfl rfl (Nat.le_of_ble_eq_true rfl) 34 rfl (sp_mtold σ (hσ 33 0) (hσ 33 1) (hσ 33 2)) (fun r9 σ10 hq11 => ?_)
      obtain ⟨rfl, rfl⟩ := hq11
      refine sw_blk k_X8_rides 0 34 [(2, .inl (σ 34 ((σ 26 23).toNat))), (1, .inl (σ 34 ((σ 26 23).toNat))), (0, .inr (.inr 26))] [.inl (σ 26 10 + (σ 33 0 + σ 33 1 + σ 33 2 - min (σ 33 0) (min (σ 33 1) (σ 33 2)) - max (σ 33 0) (max (σ 33 1) (σ 33 2)))), .inr (.inr 26), .inl (σ 34 ((σ 26 23).toNat))] σ rfl ?_
      refine sw_callV k_X8_rides rfl cV_X8_allowed ml_X8_107 ⟨by decide, by decide⟩ 26 rfl rfl [.inl (σ 26 10 + (σ 33 0 + σ 33 1 + σ 33 2 - min (σ 33 0) (min (σ 33 1) (σ 33 2)) - max (σ 33 0) (max (σ 33 1) (σ 33 2))))] [.inl (σ 34 ((σ 26 23).toNat))] rfl rfl (Nat.le_of_ble_eq_true rfl) 37 rfl (sp_allowed σ hσ hz hD (σ 26 10 + (σ 33 0 + σ 33 1 + σ 33 2 - min (σ 33 0) (min (σ 33 1) (σ 33 2)) - max (σ 33 0) (max (σ 33 1) (σ 33 2)))) (by omega)) (fun r12 σ13 hq14 => ?_)
      obtain ⟨rfl, rfl⟩ := hq14
      have hab := haw (σ 26 10 + (σ 33 0 + σ 33 1 + σ 33 2 - min (σ 33 0) (min (σ 33 1) (σ 33 2)) - max (σ 33 0) (max (σ 33 1) (σ 33 2))))
      generalize haw9 : (sw_aw (σ 27) (σ 28) (σ 29) (σ 26 1) (σ 26 0) (σ 26 10 + (σ 33 0 + σ 33 1 + σ 33 2 - min (σ 33 0) (min (σ 33 1) (σ 33 2)) - max (σ 33 0) (max (σ 33 1) (σ 33 2)))) (σ 26 3).toNat).1 = aw at hab
      refine sw_blk k_X8_rides 3 42 [(2, .inl (σ 34 ((σ 26 23).toNat))), (1, .inl (σ 34 ((σ 26 23).toNat))), (0, .inr (.inr 26))] [.inl (aw + (σ 26 16)), .inl (σ 34 ((σ 26 23).toNat))] σ rfl ?_
      refine sw_icmp_le k_X8_rides rfl (hσ 34 _) (by omega) 68 45 (by decide) rfl (fun c15 => ?_) (fun c15 => ?_)
      · refine sw_blk k_X8_rides 19 101 [(2, .inl (σ 34 ((σ 26 23).toNat))), (1, .inl (σ 34 ((σ 26 23).toNat))), (0, .inr (.inr 26))] [.inl (σ 26 22), .inl ((σ 26 23) + 1)] (sw_u (sw_u (sw_u σ 26 11 (σ 34 ((σ 26 23).toNat))) 26 10 ((σ 26 10) + (σ 34 ((σ 26 23).toNat)))) 26 23 ((σ 26 23) + 1)) rfl ?_
        refine sw_icmp_ne k_X8_rides rfl (by omega) (hσ 26 _) 124 104 (by decide) rfl (fun c16 => ?_) (fun c16 => ?_)
        · refine sw_vreturn k_X8_rides rfl rfl ?_
          have hab9 := haw (σ 26 10 + (σ 33 0 + σ 33 1 + σ 33 2 - min (σ 33 0) (min (σ 33 1) (σ 33 2)) - max (σ 33 0) (max (σ 33 1) (σ 33 2))))
          have bb : ¬ (0 < sw_cnt (σ 32) 8 ∨ (sw_aw (σ 27) (σ 28) (σ 29) (σ 26 1) (σ 26 0) (σ 26 10 + (σ 33 0 + σ 33 1 + σ 33 2 - min (σ 33 0) (min (σ 33 1) (σ 33 2)) - max (σ 33 0) (max (σ 33 1) (σ 33 2)))) (σ 26 3).toNat).1 + σ 26 16 < sw_abs (σ 34 (σ 26 23).toNat)) := by (try rw [haw9]); unfold sw_abs; omega
          refine ⟨rfl, (fun i j h => by unfold sw_u; (repeat rw [if_neg (by omega)])), ?_, ?_, ?_, ?_, ?_, ?_⟩
          · unfold sw_mNP; rw [if_pos h12, if_neg bb]; rfl
          · unfold sw_mNV; rw [if_pos h12, if_neg bb, if_neg (by omega)]; rfl
          · unfold sw_mNH; rw [if_pos h12, if_neg bb, if_neg (by omega)]; exact h12
          · unfold sw_mNE; rw [if_pos h12, if_neg bb, if_neg (by omega)]; rfl
          · unfold sw_mNB; rw [if_pos h12, if_neg bb]; rfl
          · unfold sw_mNR; rw [if_pos h12, if_neg bb]; rfl
        · refine sw_blk k_X8_rides 12 124 [(2, .inl (σ 34 ((σ 26 23).toNat))), (1, .inl (σ 34 ((σ 26 23).toNat))), (0, .inr (.inr 26))] [] (sw_u (sw_u (sw_u (sw_u (sw_u (sw_u σ 26 11 (σ 34 ((σ 26 23).toNat))) 26 10 ((σ 26 10) + (σ 34 ((σ 26 23).toNat)))) 26 23 ((σ 26 23) + 1)) 26 11 0) 26 12 0) 26 19 ((σ 26 19) + 1)) rfl ?_
          refine sw_vreturn k_X8_rides rfl rfl ?_
          have hab9 := haw (σ 26 10 + (σ 33 0 + σ 33 1 + σ 33 2 - min (σ 33 0) (min (σ 33 1) (σ 33 2)) - max (σ 33 0) (max (σ 33 1) (σ 33 2))))
          have bb : ¬ (0 < sw_cnt (σ 32) 8 ∨ (sw_aw (σ 27) (σ 28) (σ 29) (σ 26 1) (σ 26 0) (σ 26 10 + (σ 33 0 + σ 33 1 + σ 33 2 - min (σ 33 0) (min (σ 33 1) (σ 33 2)) - max (σ 33 0) (max (σ 33 1) (σ 33 2)))) (σ 26 3).toNat).1 + σ 26 16 < sw_abs (σ 34 (σ 26 23).toNat)) := by (try rw [haw9]); unfold sw_abs; omega
          refine ⟨rfl, (fun i j h => by unfold sw_u; (repeat rw [if_neg (by omega)])), ?_, ?_, ?_, ?_, ?_, ?_⟩
          · unfold sw_mNP; rw [if_pos h12, if_neg bb]; rfl
          · unfold sw_mNV; rw [if_pos h12, if_neg bb, if_pos (by omega)]; rfl
          · unfold sw_mNH; rw [if_pos h12, if_neg bb, if_pos (by omega)]; rfl
          · unfold sw_mNE; rw [if_pos h12, if_neg bb, if_pos (by omega)]; rfl
          · unfold sw_mNB; rw [if_pos h12, if_neg bb]; rfl
          · unfold sw_mNR; rw [if_pos h12, if_neg bb]; rfl
      · refine sw_blk k_X8_rides 11 64 [(2, .inl (σ 34 ((σ 26 23).toNat))), (1, .inl (σ 34 ((σ 26 23).toNat))), (0, .inr (.inr 26))] [.inr (.inr 26)] (sw_u (sw_u σ 26 20 ((σ 26 20) + 1)) 26 23 (σ 26 22)) rfl ?_
        refine sw_callV k_X8_rides rfl cV_X8_brakes ml_X8_151 ⟨by decide, by decide⟩ 26 rfl rfl [] [] rfl rfl (Nat.le_of_ble_eq_true rfl) 67 rfl (sp_mbrakes (sw_u (sw_u σ 26 20 ((σ 26 20) + 1)) 26 23 (σ 26 22)) (sw_gs_u (sw_gs_u hσ 26 20 (by omega)) 26 23 (hσ 26 22)) hD hpl hspd hbr) (fun r17 σ18 hq19 => ?_)
        obtain ⟨rfl, sf, s10, s11, s12⟩ := hq19
        have s10 : _ = sw_sp (σ 26 0) (σ 26 17) (σ 26 10) (σ 26 11) := s10
        have s11 : _ = sw_sv (σ 26 0) (σ 26 17) (σ 26 10) (σ 26 11) := s11
        have s12 : _ = (if sw_sv (σ 26 0) (σ 26 17) (σ 26 10) (σ 26 11) = 0 then (0 : Int) else 2) := s12
        refine sw_blk k_X8_rides 0 67 [(2, .inl (σ 34 ((σ 26 23).toNat))), (1, .inl (σ 34 ((σ 26 23).toNat))), (0, .inr (.inr 26))] [] σ18 rfl ?_
        refine sw_vreturn k_X8_rides rfl rfl ?_
        have hab9 := haw (σ 26 10 + (σ 33 0 + σ 33 1 + σ 33 2 - min (σ 33 0) (min (σ 33 1) (σ 33 2)) - max (σ 33 0) (max (σ 33 1) (σ 33 2))))
        have bb : (0 < sw_cnt (σ 32) 8 ∨ (sw_aw (σ 27) (σ 28) (σ 29) (σ 26 1) (σ 26 0) (σ 26 10 + (σ 33 0 + σ 33 1 + σ 33 2 - min (σ 33 0) (min (σ 33 1) (σ 33 2)) - max (σ 33 0) (max (σ 33 1) (σ 33 2)))) (σ 26 3).toNat).1 + σ 26 16 < sw_abs (σ 34 (σ 26 23).toNat)) := by (try rw [haw9]); unfold sw_abs; omega
        refine ⟨rfl, fun i j h => by rw [sf i j (by omega)]; unfold sw_u; (repeat rw [if_neg (by omega)]), ?_, ?_, ?_, ?_, ?_, ?_⟩
        · rw [s10]; unfold sw_mNP; rw [if_pos h12, if_pos bb]
        · rw [s11]; unfold sw_mNV; rw [if_pos h12, if_pos bb]
        · rw [s12]; unfold sw_mNH; rw [if_pos h12, if_pos bb]
        · rw [sf 26 19 (by omega)]; unfold sw_mNE; rw [if_pos h12, if_pos bb]; rfl
        · rw [sf 26 20 (by omega)]; unfold sw_mNB; rw [if_pos h12, if_pos bb]; rfl
        · rw [sf 26 23 (by omega)]; unfold sw_mNR; rw [if_pos h12, if_pos bb]; rfl
  · refine sw_blk k_X8_rides 5 22 [(2, .inl (-(σ 34 ((σ 26 23).toNat)))), (1, .inl (σ 34 ((σ 26 23).toNat))), (0, .inr (.inr 26))] [.inr (.inr 26)] σ rfl ?_
    refine sw_callV k_X8_rides rfl cV_X8_opens ml_X8_132 ⟨by decide, by decide⟩ 26 rfl rfl [] [] rfl rfl (Nat.le_of_ble_eq_true rfl) 25 rfl (sp_opens σ (fun j => hσ 32 j)) (fun r20 σ21 hq22 => ?_)
    obtain ⟨rfl, rfl⟩ := hq22
    refine sw_blk k_X8_rides 0 25 [(2, .inl (-(σ 34 ((σ 26 23).toNat)))), (1, .inl (σ 34 ((σ 26 23).toNat))), (0, .inr (.inr 26))] [.inl (sw_cnt (σ 32) 8)] σ rfl ?_
    refine sw_if_gt k_X8_rides rfl (by have := sw_cnt_le (σ 32) 8; omega) 45 28 (by decide) rfl (fun c23 => ?_) (fun c23 => ?_)
    · refine sw_blk k_X8_rides 11 64 [(2, .inl (-(σ 34 ((σ 26 23).toNat)))), (1, .inl (σ 34 ((σ 26 23).toNat))), (0, .inr (.inr 26))] [.inr (.inr 26)] (sw_u (sw_u σ 26 20 ((σ 26 20) + 1)) 26 23 (σ 26 22)) rfl ?_
      refine sw_callV k_X8_rides rfl cV_X8_brakes ml_X8_151 ⟨by decide, by decide⟩ 26 rfl rfl [] [] rfl rfl (Nat.le_of_ble_eq_true rfl) 67 rfl (sp_mbrakes (sw_u (sw_u σ 26 20 ((σ 26 20) + 1)) 26 23 (σ 26 22)) (sw_gs_u (sw_gs_u hσ 26 20 (by omega)) 26 23 (hσ 26 22)) hD hpl hspd hbr) (fun r24 σ25 hq26 => ?_)
      obtain ⟨rfl, sf, s10, s11, s12⟩ := hq26
      have s10 : _ = sw_sp (σ 26 0) (σ 26 17) (σ 26 10) (σ 26 11) := s10
      have s11 : _ = sw_sv (σ 26 0) (σ 26 17) (σ 26 10) (σ 26 11) := s11
      have s12 : _ = (if sw_sv (σ 26 0) (σ 26 17) (σ 26 10) (σ 26 11) = 0 then (0 : Int) else 2) := s12
      refine sw_blk k_X8_rides 0 67 [(2, .inl (-(σ 34 ((σ 26 23).toNat)))), (1, .inl (σ 34 ((σ 26 23).toNat))), (0, .inr (.inr 26))] [] σ25 rfl ?_
      refine sw_vreturn k_X8_rides rfl rfl ?_
      have hab9 := haw (σ 26 10 + (σ 33 0 + σ 33 1 + σ 33 2 - min (σ 33 0) (min (σ 33 1) (σ 33 2)) - max (σ 33 0) (max (σ 33 1) (σ 33 2))))
      have bb : (0 < sw_cnt (σ 32) 8 ∨ (sw_aw (σ 27) (σ 28) (σ 29) (σ 26 1) (σ 26 0) (σ 26 10 + (σ 33 0 + σ 33 1 + σ 33 2 - min (σ 33 0) (min (σ 33 1) (σ 33 2)) - max (σ 33 0) (max (σ 33 1) (σ 33 2)))) (σ 26 3).toNat).1 + σ 26 16 < sw_abs (σ 34 (σ 26 23).toNat)) := by (try rw [haw9]); unfold sw_abs; omega
      refine ⟨rfl, fun i j h => by rw [sf i j (by omega)]; unfold sw_u; (repeat rw [if_neg (by omega)]), ?_, ?_, ?_, ?_, ?_, ?_⟩
      · rw [s10]; unfold sw_mNP; rw [if_pos h12, if_pos bb]
      · rw [s11]; unfold sw_mNV; rw [if_pos h12, if_pos bb]
      · rw [s12]; unfold sw_mNH; rw [if_pos h12, if_pos bb]
      · rw [sf 26 19 (by omega)]; unfold sw_mNE; rw [if_pos h12, if_pos bb]; rfl
      · rw [sf 26 20 (by omega)]; unfold sw_mNB; rw [if_pos h12, if_pos bb]; rfl
      · rw [sf 26 23 (by omega)]; unfold sw_mNR; rw [if_pos h12, if_pos bb]; rfl
    · refine sw_blk k_X8_rides 3 31 [(2, .inl (-(σ 34 ((σ 26 23).toNat)))), (1, .inl (σ 34 ((σ 26 23).toNat))), (0, .inr (.inr 26))] [.inr (.inr 26), .inr (.inr 26), .inl (-(σ 34 ((σ 26 23).toNat)))] σ rfl ?_
      refine sw_callV k_X8_rides rfl cV_X8_told ml_X8_145 ⟨by decide, by decide⟩ 26 rfl rfl [] [.inr (.inr 26), .inl (-(σ 34 ((σ 26 23).toNat)))] rfl rfl (Nat.le_of_ble_eq_true rfl) 34 rfl (sp_mtold σ (hσ 33 0) (hσ 33 1) (hσ 33 2)) (fun r27 σ28 hq29 => ?_)
      obtain ⟨rfl, rfl⟩ := hq29
      refine sw_blk k_X8_rides 0 34 [(2, .inl (-(σ 34 ((σ 26 23).toNat)))), (1, .inl (σ 34 ((σ 26 23).toNat))), (0, .inr (.inr 26))] [.inl (σ 26 10 + (σ 33 0 + σ 33 1 + σ 33 2 - min (σ 33 0) (min (σ 33 1) (σ 33 2)) - max (σ 33 0) (max (σ 33 1) (σ 33 2)))), .inr (.inr 26), .inl (-(σ 34 ((σ 26 23).toNat)))] σ rfl ?_
      refine sw_callV k_X8_rides rfl cV_X8_allowed ml_X8_107 ⟨by decide, by decide⟩ 26 rfl rfl [.inl (σ 26 10 + (σ 33 0 + σ 33 1 + σ 33 2 - min (σ 33 0) (min (σ 33 1) (σ 33 2)) - max (σ 33 0) (max (σ 33 1) (σ 33 2))))] [.inl (-(σ 34 ((σ 26 23).toNat)))] rfl rfl (Nat.le_of_ble_eq_true rfl) 37 rfl (sp_allowed σ hσ hz hD (σ 26 10 + (σ 33 0 + σ 33 1 + σ 33 2 - min (σ 33 0) (min (σ 33 1) (σ 33 2)) - max (σ 33 0) (max (σ 33 1) (σ 33 2)))) (by omega)) (fun r30 σ31 hq32 => ?_)
      obtain ⟨rfl, rfl⟩ := hq32
      have hab := haw (σ 26 10 + (σ 33 0 + σ 33 1 + σ 33 2 - min (σ 33 0) (min (σ 33 1) (σ 33 2)) - max (σ 33 0) (max (σ 33 1) (σ 33 2))))
      generalize haw9 : (sw_aw (σ 27) (σ 28) (σ 29) (σ 26 1) (σ 26 0) (σ 26 10 + (σ 33 0 + σ 33 1 + σ 33 2 - min (σ 33 0) (min (σ 33 1) (σ 33 2)) - max (σ 33 0) (max (σ 33 1) (σ 33 2)))) (σ 26 3).toNat).1 = aw at hab
      refine sw_blk k_X8_rides 3 42 [(2, .inl (-(σ 34 ((σ 26 23).toNat)))), (1, .inl (σ 34 ((σ 26 23).toNat))), (0, .inr (.inr 26))] [.inl (aw + (σ 26 16)), .inl (-(σ 34 ((σ 26 23).toNat)))] σ rfl ?_
      refine sw_icmp_le k_X8_rides rfl (by omega) (by omega) 68 45 (by decide) rfl (fun c33 => ?_) (fun c33 => ?_)
      · refine sw_blk k_X8_rides 19 101 [(2, .inl (-(σ 34 ((σ 26 23).toNat)))), (1, .inl (σ 34 ((σ 26 23).toNat))), (0, .inr (.inr 26))] [.inl (σ 26 22), .inl ((σ 26 23) + 1)] (sw_u (sw_u (sw_u σ 26 11 (σ 34 ((σ 26 23).toNat))) 26 10 ((σ 26 10) + (σ 34 ((σ 26 23).toNat)))) 26 23 ((σ 26 23) + 1)) rfl ?_
        refine sw_icmp_ne k_X8_rides rfl (by omega) (hσ 26 _) 124 104 (by decide) rfl (fun c34 => ?_) (fun c34 => ?_)
        · refine sw_vreturn k_X8_rides rfl rfl ?_
          have hab9 := haw (σ 26 10 + (σ 33 0 + σ 33 1 + σ 33 2 - min (σ 33 0) (min (σ 33 1) (σ 33 2)) - max (σ 33 0) (max (σ 33 1) (σ 33 2))))
          have bb : ¬ (0 < sw_cnt (σ 32) 8 ∨ (sw_aw (σ 27) (σ 28) (σ 29) (σ 26 1) (σ 26 0) (σ 26 10 + (σ 33 0 + σ 33 1 + σ 33 2 - min (σ 33 0) (min (σ 33 1) (σ 33 2)) - max (σ 33 0) (max (σ 33 1) (σ 33 2)))) (σ 26 3).toNat).1 + σ 26 16 < sw_abs (σ 34 (σ 26 23).toNat)) := by (try rw [haw9]); unfold sw_abs; omega
          refine ⟨rfl, (fun i j h => by unfold sw_u; (repeat rw [if_neg (by omega)])), ?_, ?_, ?_, ?_, ?_, ?_⟩
          · unfold sw_mNP; rw [if_pos h12, if_neg bb]; rfl
          · unfold sw_mNV; rw [if_pos h12, if_neg bb, if_neg (by omega)]; rfl
          · unfold sw_mNH; rw [if_pos h12, if_neg bb, if_neg (by omega)]; exact h12
          · unfold sw_mNE; rw [if_pos h12, if_neg bb, if_neg (by omega)]; rfl
          · unfold sw_mNB; rw [if_pos h12, if_neg bb]; rfl
          · unfold sw_mNR; rw [if_pos h12, if_neg bb]; rfl
        · refine sw_blk k_X8_rides 12 124 [(2, .inl (-(σ 34 ((σ 26 23).toNat)))), (1, .inl (σ 34 ((σ 26 23).toNat))), (0, .inr (.inr 26))] [] (sw_u (sw_u (sw_u (sw_u (sw_u (sw_u σ 26 11 (σ 34 ((σ 26 23).toNat))) 26 10 ((σ 26 10) + (σ 34 ((σ 26 23).toNat)))) 26 23 ((σ 26 23) + 1)) 26 11 0) 26 12 0) 26 19 ((σ 26 19) + 1)) rfl ?_
          refine sw_vreturn k_X8_rides rfl rfl ?_
          have hab9 := haw (σ 26 10 + (σ 33 0 + σ 33 1 + σ 33 2 - min (σ 33 0) (min (σ 33 1) (σ 33 2)) - max (σ 33 0) (max (σ 33 1) (σ 33 2))))
          have bb : ¬ (0 < sw_cnt (σ 32) 8 ∨ (sw_aw (σ 27) (σ 28) (σ 29) (σ 26 1) (σ 26 0) (σ 26 10 + (σ 33 0 + σ 33 1 + σ 33 2 - min (σ 33 0) (min (σ 33 1) (σ 33 2)) - max (σ 33 0) (max (σ 33 1) (σ 33 2)))) (σ 26 3).toNat).1 + σ 26 16 < sw_abs (σ 34 (σ 26 23).toNat)) := by (try rw [haw9]); unfold sw_abs; omega
          refine ⟨rfl, (fun i j h => by unfold sw_u; (repeat rw [if_neg (by omega)])), ?_, ?_, ?_, ?_, ?_, ?_⟩
          · unfold sw_mNP; rw [if_pos h12, if_neg bb]; rfl
          · unfold sw_mNV; rw [if_pos h12, if_neg bb, if_pos (by omega)]; rfl
          · unfold sw_mNH; rw [if_pos h12, if_neg bb, if_pos (by omega)]; rfl
          · unfold sw_mNE; rw [if_pos h12, if_neg bb, if_pos (by omega)]; rfl
          · unfold sw_mNB; rw [if_pos h12, if_neg bb]; rfl
          · unfold sw_mNR; rw [if_pos h12, if_neg bb]; rfl
      · refine sw_blk k_X8_rides 11 64 [(2, .inl (-(σ 34 ((σ 26 23).toNat)))), (1, .inl (σ 34 ((σ 26 23).toNat))), (0, .inr (.inr 26))] [.inr (.inr 26)] (sw_u (sw_u σ 26 20 ((σ 26 20) + 1)) 26 23 (σ 26 22)) rfl ?_
        refine sw_callV k_X8_rides rfl cV_X8_brakes ml_X8_151 ⟨by decide, by decide⟩ 26 rfl rfl [] [] rfl rfl (Nat.le_of_ble_eq_true rfl) 67 rfl (sp_mbrakes (sw_u (sw_u σ 26 20 ((σ 26 20) + 1)) 26 23 (σ 26 22)) (sw_gs_u (sw_gs_u hσ 26 20 (by omega)) 26 23 (hσ 26 22)) hD hpl hspd hbr) (fun r35 σ36 hq37 => ?_)
        obtain ⟨rfl, sf, s10, s11, s12⟩ := hq37
        have s10 : _ = sw_sp (σ 26 0) (σ 26 17) (σ 26 10) (σ 26 11) := s10
        have s11 : _ = sw_sv (σ 26 0) (σ 26 17) (σ 26 10) (σ 26 11) := s11
        have s12 : _ = (if sw_sv (σ 26 0) (σ 26 17) (σ 26 10) (σ 26 11) = 0 then (0 : Int) else 2) := s12
        refine sw_blk k_X8_rides 0 67 [(2, .inl (-(σ 34 ((σ 26 23).toNat)))), (1, .inl (σ 34 ((σ 26 23).toNat))), (0, .inr (.inr 26))] [] σ36 rfl ?_
        refine sw_vreturn k_X8_rides rfl rfl ?_
        have hab9 := haw (σ 26 10 + (σ 33 0 + σ 33 1 + σ 33 2 - min (σ 33 0) (min (σ 33 1) (σ 33 2)) - max (σ 33 0) (max (σ 33 1) (σ 33 2))))
        have bb : (0 < sw_cnt (σ 32) 8 ∨ (sw_aw (σ 27) (σ 28) (σ 29) (σ 26 1) (σ 26 0) (σ 26 10 + (σ 33 0 + σ 33 1 + σ 33 2 - min (σ 33 0) (min (σ 33 1) (σ 33 2)) - max (σ 33 0) (max (σ 33 1) (σ 33 2)))) (σ 26 3).toNat).1 + σ 26 16 < sw_abs (σ 34 (σ 26 23).toNat)) := by (try rw [haw9]); unfold sw_abs; omega
        refine ⟨rfl, fun i j h => by rw [sf i j (by omega)]; unfold sw_u; (repeat rw [if_neg (by omega)]), ?_, ?_, ?_, ?_, ?_, ?_⟩
        · rw [s10]; unfold sw_mNP; rw [if_pos h12, if_pos bb]
        · rw [s11]; unfold sw_mNV; rw [if_pos h12, if_pos bb]
        · rw [s12]; unfold sw_mNH; rw [if_pos h12, if_pos bb]
        · rw [sf 26 19 (by omega)]; unfold sw_mNE; rw [if_pos h12, if_pos bb]; rfl
        · rw [sf 26 20 (by omega)]; unfold sw_mNB; rw [if_pos h12, if_pos bb]; rfl
        · rw [sf 26 23 (by omega)]; unfold sw_mNR; rw [if_pos h12, if_pos bb]; rfl
theorem sp_mbrakes2 (σ : sw_S) (hσ : sw_gs σ) (N : Int) (v : sw_mv N σ) (h12 : σ 26 12 = 2) : sw_Con sw_ly sw_rho M_X8_brakes [.inr (.inr 26)] σ (fun r σ' => r = none ∧ sw_mmv σ σ') := by
  obtain ⟨hD, hV, hz, hpl, hspd, hbr, hmg, h0, h1, h2, hti, hen, hbk, haw, hrd⟩ := v
  refine sw_Con_mono (sp_mbrakes σ hσ hD hpl hspd hbr) (fun r σ' h => ?_)
  obtain ⟨h1, f, s10, s11, s12⟩ := h
  have n1 : ¬ σ 26 12 = 1 := by omega
  refine ⟨h1, fun i j h => f i j (by omega), ?_, ?_, ?_, ?_, ?_, ?_⟩
  · rw [s10]; unfold sw_mNP; rw [if_neg n1, if_pos h12]
  · rw [s11]; unfold sw_mNV; rw [if_neg n1, if_pos h12]
  · rw [s12]; unfold sw_mNH; rw [if_neg n1, if_pos h12]
  · rw [f 26 19 (by omega)]; unfold sw_mNE; rw [if_neg n1]
  · rw [f 26 20 (by omega)]; unfold sw_mNB; rw [if_neg n1]
  · rw [f 26 23 (by omega)]; unfold sw_mNR; rw [if_neg n1]
theorem sw_mmv_rf {σ : sw_S} (n1 : ¬ σ 26 12 = 1) (n2 : ¬ σ 26 12 = 2) : sw_mmv σ σ := by
  refine ⟨fun _ _ _ => rfl, ?_, ?_, ?_, ?_, ?_, ?_⟩
  · unfold sw_mNP; rw [if_neg n1, if_neg n2]
  · unfold sw_mNV; rw [if_neg n1, if_neg n2]
  · unfold sw_mNH; rw [if_neg n1, if_neg n2]
  · unfold sw_mNE; rw [if_neg n1]
  · unfold sw_mNB; rw [if_neg n1]
  · unfold sw_mNR; rw [if_neg n1]
theorem lp_mpass (N : Int) (hN : 0 ≤ N ∧ N ≤ 900000) (σ : sw_S) (f : Nat → sw_S) (n0 : Int) (h0 : 1 ≤ n0 ∧ n0 ≤ 400) (hf : ∀ i, i < n0.toNat → sw_cst (f i) (f (i + 1))) (Q : Option sw_Vl → sw_S → Prop) (hQ : ∀ τ : sw_S, sw_jp (N + n0) (f n0.toNat) τ → (∀ i j, i ≠ 39 → ¬ (i = 26 ∧ (j = 10 ∨ j = 11 ∨ j = 12 ∨ j = 18 ∨ j = 19 ∨ j = 20 ∨ j = 23)) → τ i j = σ i j) → Q (some (.inl (τ 26 12))) τ) : ∀ (n : Nat) (k : Nat) (σt : sw_S), (k : Int) ≤ n0 → sw_jp (N + (k : Int)) (f k) σt → (∀ i j, i ≠ 39 → ¬ (i = 26 ∧ (j = 10 ∨ j = 11 ∨ j = 12 ∨ j = 18 ∨ j = 19 ∨ j = 20 ∨ j = 23)) → σt i j = σ i j) → 401 - k < n → sw_E sw_ly sw_rho M_X8_pass 16 [(2, .inl (k : Int)), (0, .inr (.inr 26)), (1, .inl n0)] [] σt Q := by
  intro n
  induction n with
  | zero =>
    intro k σt hk J hr hn
    omega
  | succ n ih =>
    intro k σt hk J hr hn
    have v := sw_jp_v J
    have hg := J.2.1
    have hti := v.2.2.2.2.2.2.2.2.2.2.1
    refine sw_blk k_X8_pass 2 18 [(2, .inl (k : Int)), (0, .inr (.inr 26)), (1, .inl n0)] [.inl n0, .inl (k : Int)] σt rfl ?_
    refine sw_icmp_ge k_X8_pass rfl (by omega) (by omega) 108 21 (by decide) rfl (fun c1 => ?_) (fun c1 => ?_)
    · refine sw_blk k_X8_pass 2 112 [(2, .inl (k : Int)), (0, .inr (.inr 26)), (1, .inl n0)] [.inl (σt 26 12)] σt rfl ?_
      refine sw_ireturn k_X8_pass rfl rfl ?_
      have e : (k : Int) = n0 := by omega
      rw [e, show k = n0.toNat by omega] at J
      exact hQ σt J hr
    · refine sw_blk k_X8_pass 3 26 [(2, .inl (k : Int)), (0, .inr (.inr 26)), (1, .inl n0)] [.inl 1, .inl (σt 26 12)] σt rfl ?_
      refine sw_icmp_ne k_X8_pass rfl (hg 26 _) (by decide) 36 29 (by decide) rfl (fun c2 => ?_) (fun c2 => ?_)
      · refine sw_blk k_X8_pass 3 41 [(2, .inl (k : Int)), (0, .inr (.inr 26)), (1, .inl n0)] [.inl 2, .inl (σt 26 12)] σt rfl ?_
        refine sw_icmp_ne k_X8_pass rfl (hg 26 _) (by decide) 48 44 (by decide) rfl (fun c3 => ?_) (fun c3 => ?_)
        · have hmm : sw_mmv σt σt := sw_mmv_rf (by omega) (by omega)
          have e18 : σt 26 18 = σt 26 18 := rfl
          refine sw_blk k_X8_pass 4 55 [(2, .inl (k : Int)), (0, .inr (.inr 26)), (1, .inl n0)] [.inl 40, .inl (σt 26 18), .inl 3] σt rfl ?_
          refine sw_irem k_X8_pass rfl (hg 26 _) (by decide) (by omega) (by decide) 56 rfl ?_
          refine sw_blk k_X8_pass 7 67 [(3, .inl (3 * ((σt 26 18) % 40))), (2, .inl (k : Int)), (0, .inr (.inr 26)), (1, .inl n0)] [.inl (σt 26 10), .inl (3 * ((σt 26 18) % 40)), .inr (.inr 39)] σt rfl ?_
          refine sw_iast k_X8_pass rfl (i := 39) (n := 120) rfl (by decide) (by omega) (by omega) 68 rfl ?_
          refine sw_blk k_X8_pass 7 79 [(3, .inl (3 * ((σt 26 18) % 40))), (2, .inl (k : Int)), (0, .inr (.inr 26)), (1, .inl n0)] [.inl (σt 26 11), .inl ((3 * ((σt 26 18) % 40)) + 1), .inr (.inr 39)] (sw_u σt 39 ((3 * ((σt 26 18) % 40)).toNat) (σt 26 10)) rfl ?_
          refine sw_iast k_X8_pass rfl (i := 39) (n := 120) rfl (by decide) (by omega) (by omega) 80 rfl ?_
          refine sw_blk k_X8_pass 7 91 [(3, .inl (3 * ((σt 26 18) % 40))), (2, .inl (k : Int)), (0, .inr (.inr 26)), (1, .inl n0)] [.inl (σt 26 12), .inl ((3 * ((σt 26 18) % 40)) + 2), .inr (.inr 39)] (sw_u (sw_u σt 39 ((3 * ((σt 26 18) % 40)).toNat) (σt 26 10)) 39 (((3 * ((σt 26 18) % 40)) + 1).toNat) (σt 26 11)) rfl ?_
          refine sw_iast k_X8_pass rfl (i := 39) (n := 120) rfl (by decide) (by omega) (by omega) 92 rfl ?_
          refine sw_blk k_X8_pass 8 16 [(2, .inl ((k : Int) + 1)), (3, .inl (3 * ((σt 26 18) % 40))), (0, .inr (.inr 26)), (1, .inl n0)] [] (sw_u (sw_u (sw_u (sw_u σt 39 ((3 * ((σt 26 18) % 40)).toNat) (σt 26 10)) 39 (((3 * ((σt 26 18) % 40)) + 1).toNat) (σt 26 11)) 39 (((3 * ((σt 26 18) % 40)) + 2).toNat) (σt 26 12)) 26 18 ((σt 26 18) + 1)) rfl ?_
          refine sw_Lsub [(2, .inl ((k : Int) + 1)), (0, .inr (.inr 26)), (1, .inl n0)] [0, 2, 3] rfl ?_
          have hms := sw_mlog hmm hti.1
          refine ih (k + 1) (sw_u (sw_u (sw_u (sw_u σt 39 ((3 * ((σt 26 18) % 40)).toNat) (σt 26 10)) 39 (((3 * ((σt 26 18) % 40)) + 1).toNat) (σt 26 11)) 39 (((3 * ((σt 26 18) % 40)) + 2).toNat) (σt 26 12)) 26 18 ((σt 26 18) + 1)) (by omega) ?_ (fun i j i1 i2 => ?_) (by omega)
          · have h9 := sw_jp_step J (by omega) (hf k (by omega)) hms
            rw [show N + ((k + 1 : Nat) : Int) = N + (k : Int) + 1 by omega]
            exact h9
          · exact (hms.1 i j i1 i2).trans (hr i j i1 i2)
        · have c9 : σt 26 12 = 2 := by omega
          refine sw_blk k_X8_pass 1 45 [(2, .inl (k : Int)), (0, .inr (.inr 26)), (1, .inl n0)] [.inr (.inr 26)] σt rfl ?_
          refine sw_callV k_X8_pass rfl cV_X8_brakes ml_X8_151 ⟨by decide, by decide⟩ 26 rfl rfl [] [] rfl rfl (Nat.le_of_ble_eq_true rfl) 48 rfl (sp_mbrakes2 σt hg (N + (k : Int)) v c9) (fun r4 σ5 hq6 => ?_)
          obtain ⟨rfl, hmm⟩ := hq6
          have e18 := hmm.1 26 18 (by omega)
          refine sw_blk k_X8_pass 4 55 [(2, .inl (k : Int)), (0, .inr (.inr 26)), (1, .inl n0)] [.inl 40, .inl (σ5 26 18), .inl 3] σ5 rfl ?_
          refine sw_irem k_X8_pass rfl (by omega) (by decide) (by omega) (by decide) 56 rfl ?_
          refine sw_blk k_X8_pass 7 67 [(3, .inl (3 * ((σ5 26 18) % 40))), (2, .inl (k : Int)), (0, .inr (.inr 26)), (1, .inl n0)] [.inl (σ5 26 10), .inl (3 * ((σ5 26 18) % 40)), .inr (.inr 39)] σ5 rfl ?_
          refine sw_iast k_X8_pass rfl (i := 39) (n := 120) rfl (by decide) (by omega) (by omega) 68 rfl ?_
          refine sw_blk k_X8_pass 7 79 [(3, .inl (3 * ((σ5 26 18) % 40))), (2, .inl (k : Int)), (0, .inr (.inr 26)), (1, .inl n0)] [.inl (σ5 26 11), .inl ((3 * ((σ5 26 18) % 40)) + 1), .inr (.inr 39)] (sw_u σ5 39 ((3 * ((σ5 26 18) % 40)).toNat) (σ5 26 10)) rfl ?_
          refine sw_iast k_X8_pass rfl (i := 39) (n := 120) rfl (by decide) (by omega) (by omega) 80 rfl ?_
          refine sw_blk k_X8_pass 7 91 [(3, .inl (3 * ((σ5 26 18) % 40))), (2, .inl (k : Int)), (0, .inr (.inr 26)), (1, .inl n0)] [.inl (σ5 26 12), .inl ((3 * ((σ5 26 18) % 40)) + 2), .inr (.inr 39)] (sw_u (sw_u σ5 39 ((3 * ((σ5 26 18) % 40)).toNat) (σ5 26 10)) 39 (((3 * ((σ5 26 18) % 40)) + 1).toNat) (σ5 26 11)) rfl ?_
          refine sw_iast k_X8_pass rfl (i := 39) (n := 120) rfl (by decide) (by omega) (by omega) 92 rfl ?_
          refine sw_blk k_X8_pass 8 16 [(2, .inl ((k : Int) + 1)), (3, .inl (3 * ((σ5 26 18) % 40))), (0, .inr (.inr 26)), (1, .inl n0)] [] (sw_u (sw_u (sw_u (sw_u σ5 39 ((3 * ((σ5 26 18) % 40)).toNat) (σ5 26 10)) 39 (((3 * ((σ5 26 18) % 40)) + 1).toNat) (σ5 26 11)) 39 (((3 * ((σ5 26 18) % 40)) + 2).toNat) (σ5 26 12)) 26 18 ((σ5 26 18) + 1)) rfl ?_
          refine sw_Lsub [(2, .inl ((k : Int) + 1)), (0, .inr (.inr 26)), (1, .inl n0)] [0, 2, 3] rfl ?_
          have hms := sw_mlog hmm hti.1
          refine ih (k + 1) (sw_u (sw_u (sw_u (sw_u σ5 39 ((3 * ((σ5 26 18) % 40)).toNat) (σ5 26 10)) 39 (((3 * ((σ5 26 18) % 40)) + 1).toNat) (σ5 26 11)) 39 (((3 * ((σ5 26 18) % 40)) + 2).toNat) (σ5 26 12)) 26 18 ((σ5 26 18) + 1)) (by omega) ?_ (fun i j i1 i2 => ?_) (by omega)
          · have h9 := sw_jp_step J (by omega) (hf k (by omega)) hms
            rw [show N + ((k + 1 : Nat) : Int) = N + (k : Int) + 1 by omega]
            exact h9
          · exact (hms.1 i j i1 i2).trans (hr i j i1 i2)
      · have c9 : σt 26 12 = 1 := by omega
        refine sw_blk k_X8_pass 1 30 [(2, .inl (k : Int)), (0, .inr (.inr 26)), (1, .inl n0)] [.inr (.inr 26)] σt rfl ?_
        refine sw_callV k_X8_pass rfl cV_X8_rides ml_X8_157 ⟨by decide, by decide⟩ 26 rfl rfl [] [] rfl rfl (Nat.le_of_ble_eq_true rfl) 33 rfl (sp_mrides σt hg (N + (k : Int)) (by omega) v c9) (fun r7 σ8 hq9 => ?_)
        obtain ⟨rfl, hmm⟩ := hq9
        have e18 := hmm.1 26 18 (by omega)
        refine sw_blk k_X8_pass 5 55 [(2, .inl (k : Int)), (0, .inr (.inr 26)), (1, .inl n0)] [.inl 40, .inl (σ8 26 18), .inl 3] σ8 rfl ?_
        refine sw_irem k_X8_pass rfl (by omega) (by decide) (by omega) (by decide) 56 rfl ?_
        refine sw_blk k_X8_pass 7 67 [(3, .inl (3 * ((σ8 26 18) % 40))), (2, .inl (k : Int)), (0, .inr (.inr 26)), (1, .inl n0)] [.inl (σ8 26 10), .inl (3 * ((σ8 26 18) % 40)), .inr (.inr 39)] σ8 rfl ?_
        refine sw_iast k_X8_pass rfl (i := 39) (n := 120) rfl (by decide) (by omega) (by omega) 68 rfl ?_
        refine sw_blk k_X8_pass 7 79 [(3, .inl (3 * ((σ8 26 18) % 40))), (2, .inl (k : Int)), (0, .inr (.inr 26)), (1, .inl n0)] [.inl (σ8 26 11), .inl ((3 * ((σ8 26 18) % 40)) + 1), .inr (.inr 39)] (sw_u σ8 39 ((3 * ((σ8 26 18) % 40)).toNat) (σ8 26 10)) rfl ?_
        refine sw_iast k_X8_pass rfl (i := 39) (n := 120) rfl (by decide) (by omega) (by omega) 80 rfl ?_
        refine sw_blk k_X8_pass 7 91 [(3, .inl (3 * ((σ8 26 18) % 40))), (2, .inl (k : Int)), (0, .inr (.inr 26)), (1, .inl n0)] [.inl (σ8 26 12), .inl ((3 * ((σ8 26 18) % 40)) + 2), .inr (.inr 39)] (sw_u (sw_u σ8 39 ((3 * ((σ8 26 18) % 40)).toNat) (σ8 26 10)) 39 (((3 * ((σ8 26 18) % 40)) + 1).toNat) (σ8 26 11)) rfl ?_
        refine sw_iast k_X8_pass rfl (i := 39) (n := 120) rfl (by decide) (by omega) (by omega) 92 rfl ?_
        refine sw_blk k_X8_pass 8 16 [(2, .inl ((k : Int) + 1)), (3, .inl (3 * ((σ8 26 18) % 40))), (0, .inr (.inr 26)), (1, .inl n0)] [] (sw_u (sw_u (sw_u (sw_u σ8 39 ((3 * ((σ8 26 18) % 40)).toNat) (σ8 26 10)) 39 (((3 * ((σ8 26 18) % 40)) + 1).toNat) (σ8 26 11)) 39 (((3 * ((σ8 26 18) % 40)) + 2).toNat) (σ8 26 12)) 26 18 ((σ8 26 18) + 1)) rfl ?_
        refine sw_Lsub [(2, .inl ((k : Int) + 1)), (0, .inr (.inr 26)), (1, .inl n0)] [0, 2, 3] rfl ?_
        have hms := sw_mlog hmm hti.1
        refine ih (k + 1) (sw_u (sw_u (sw_u (sw_u σ8 39 ((3 * ((σ8 26 18) % 40)).toNat) (σ8 26 10)) 39 (((3 * ((σ8 26 18) % 40)) + 1).toNat) (σ8 26 11)) 39 (((3 * ((σ8 26 18) % 40)) + 2).toNat) (σ8 26 12)) 26 18 ((σ8 26 18) + 1)) (by omega) ?_ (fun i j i1 i2 => ?_) (by omega)
        · have h9 := sw_jp_step J (by omega) (hf k (by omega)) hms
          rw [show N + ((k + 1 : Nat) : Int) = N + (k : Int) + 1 by omega]
          exact h9
        · exact (hms.1 i j i1 i2).trans (hr i j i1 i2)
theorem mm_pass (σ : sw_S) (N : Int) (hN : 0 ≤ N ∧ N ≤ 900000) (f : Nat → sw_S) (J : sw_jp N (f 0) σ) (k : Int) (gk : sw_g k) (hf : k ≤ 400 → ∀ i, i < k.toNat → sw_cst (f i) (f (i + 1))) : sw_Con sw_ly sw_rho M_X8_pass [.inr (.inr 26), .inl k] σ (fun r σ' => (¬ (1 ≤ k ∧ k ≤ 400) ∧ r = some (.inl (-2)) ∧ σ = σ') ∨ ((1 ≤ k ∧ k ≤ 400) ∧ sw_jp (N + k) (f k.toNat) σ' ∧ (∀ i j, i ≠ 39 → ¬ (i = 26 ∧ (j = 10 ∨ j = 11 ∨ j = 12 ∨ j = 18 ∨ j = 19 ∨ j = 20 ∨ j = 23)) → σ' i j = σ i j) ∧ r = some (.inl (σ' 26 12)))) := by
  refine sw_con (by decide) (Nat.le_of_ble_eq_true rfl) ?_
  refine sw_blk k_X8_pass 3 5 [(0, .inr (.inr 26)), (1, .inl k)] [.inl 400, .inl 1, .inl k] σ rfl ?_
  refine sw_callS k_X8_pass rfl cS_X8_in ml_X8_87 ⟨by decide, by decide⟩ [.inl k, .inl 1, .inl 400] [] rfl rfl (Nat.le_of_ble_eq_true rfl) 8 rfl (sp_in σ k 1 400 (by omega) (by decide) (by decide)) (fun r2 σ3 hq4 => ?_)
  obtain ⟨rfl, ⟨p1, rfl⟩ | ⟨p1, rfl⟩⟩ := hq4
  · refine sw_blk k_X8_pass 0 8 [(0, .inr (.inr 26)), (1, .inl k)] [.inl 1] σ rfl ?_
    refine sw_if_ne k_X8_pass rfl (by decide) 14 11 (by decide) rfl (fun _ => ?_) (fun c => absurd c (by decide))
    refine sw_blk k_X8_pass 2 16 [(2, .inl 0), (0, .inr (.inr 26)), (1, .inl k)] [] σ rfl ?_
    exact lp_mpass N hN σ f k (by omega) (hf (by omega)) _ (fun τ y1 y2 => Or.inr ⟨by omega, y1, y2, rfl⟩) 402 0 σ (by omega) (by rw [show N + ((0 : Nat) : Int) = N by omega]; exact J) (fun _ _ _ _ => rfl) (by omega)
  · refine sw_blk k_X8_pass 0 8 [(0, .inr (.inr 26)), (1, .inl k)] [.inl 0] σ rfl ?_
    refine sw_if_ne k_X8_pass rfl (by decide) 14 11 (by decide) rfl (fun c => absurd (by decide) c) (fun _ => ?_)
    refine sw_blk k_X8_pass 1 13 [(0, .inr (.inr 26)), (1, .inl k)] [.inl (-2)] σ rfl ?_
    refine sw_ireturn k_X8_pass rfl rfl ?_
    exact Or.inl ⟨by omega, rfl, rfl⟩
