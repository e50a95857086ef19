theorem sw_fn_row {a a' : sw_S} (h1 : a' 1 = a 1) (h2 : a' 2 = a 2) (h3 : a' 3 = a 3) (h4 : a' 4 = a 4) (h : sw_fn a) : sw_fn a' := by
  unfold sw_fn sw_rw at *
  rw [h1, h2, h3, h4]
  exact h
theorem sw_lm_row {a a' : sw_S} (h1 : a' 26 = a 26) (h2 : a' 27 = a 27) (h3 : a' 28 = a 28) (h4 : a' 29 = a 29) (j : Nat) : sw_lm a' j = sw_lm a j := by
  unfold sw_lm
  rw [h1, h2, h3, h4]
theorem sw_fk_c {σ τ : sw_S} (h : sw_fk σ τ) : sw_fkc 25 σ τ := fun i j h1 _ h3 => h i j h1 h3
theorem sw_fkc_m {c : Nat} {σ τ : sw_S} (hc : c < 26) (h : sw_fkc c σ τ) (i : Nat) (hi : 26 ≤ i) : τ i = σ i := funext fun j => h i j (by omega) (by omega) (fun z => by omega)
theorem sw_J_plan {N : Int} {σ σ1 σ2 : sw_S} (J : sw_J N σ σ) (g2 : sw_gs σ2) (fk : sw_fkc 25 σ σ1) (fn1 : sw_fn σ1) (fr : ∀ i j, i ≠ 35 → i ≠ 36 → i ≠ 37 → i ≠ 38 → σ2 i j = σ1 i j) : sw_J N σ2 σ2 := by
  have rr : ∀ i, i < 26 → σ2 i = σ1 i := fun i hi => funext fun j => fr i j (by omega) (by omega) (by omega) (by omega)
  refine sw_J_cong J g2 g2 (sw_fn_row (rr 1 (by decide)) (rr 2 (by decide)) (rr 3 (by decide)) (rr 4 (by decide)) fn1) (fun i j h1 h2 h3 h4 => ?_) (fun i j h1 h2 h3 h4 h5 h6 => ?_)
  · rw [rr i h1]; exact fk i j h3 h4 (fun z => absurd z h2)
  · rw [fr i j h2 h3 h4 h5]; exact fk i j (by omega) (by omega) (fun z => by omega)
theorem sw_isn_one {lim : Nat → Int} {D V A p q : Int} {m n : Nat} (h : sw_isn lim D V A p q m) (k : sw_isn lim D V A p q n) : m = n := by
  rcases Nat.lt_trichotomy m n with z | z | z
  · exact absurd h.2.1 (k.2.2 m z)
  · exact z
  · exact absurd k.2.1 (h.2.2 n z)
theorem sw_isr_one {lim : Nat → Int} {D V A p q : Int} {m n : Nat} {f g : Nat → Int} (h : sw_isr lim D V A p q m f) (k : sw_isr lim D V A p q n g) : m = n ∧ ∀ i, i < m → f i = g i := by
  have e := sw_isn_one h.1 k.1
  subst e
  refine ⟨rfl, fun i hi => ?_⟩
  have := sw_gp_one h.2 k.2 i hi
  rw [Nat.zero_add] at this
  exact this
theorem sw_pl_cong {f g : Nat → Int} (p : Int) : ∀ n, (∀ i, i < n → f i = g i) → sw_pl f p n = sw_pl g p n
  | 0, _ => rfl
  | n + 1, h => by rw [sw_pl, sw_pl, sw_pl_cong p n (fun i hi => h i (by omega)), h n (by omega)]
theorem sw_pv_cong {f g : Nat → Int} : ∀ n, (∀ i, i < n → f i = g i) → sw_pv f n = sw_pv g n
  | 0, _ => rfl
  | n + 1, h => h n (by omega)
theorem sw_sl_cong {l0 l1 wt D p k : Int} {f g : Nat → Int} {n : Nat} (h : ∀ i, i < n → f i = g i) {j : Nat} (hj : j ≤ n) : sw_sl l0 l1 wt D f n p k j ↔ sw_sl l0 l1 wt D g n p k j := by
  unfold sw_sl
  have e3 : sw_gx f n j = sw_gx g n j := by
    unfold sw_gx
    split
    · next z => exact h j z
    · rfl
  rw [sw_pl_cong p j (fun i hi => h i (by omega)), sw_pv_cong j (fun i hi => h i (by omega)), e3]
theorem sw_fs_cong {s t : Nat → Prop} {n : Nat} {x : Int} (h : ∀ j, j ≤ n → (s j ↔ t j)) (k : sw_fs s n x) : sw_fs t n x := by
  rcases k with z | ⟨z, ⟨j, j1, j2, j3, j4⟩ | ⟨j1, j2⟩⟩
  · exact Or.inl z
  · exact Or.inr ⟨z, Or.inl ⟨j, j1, (h j j1).mp j2, fun i hi y => j3 i hi ((h i (by omega)).mpr y), j4⟩⟩
  · exact Or.inr ⟨z, Or.inr ⟨fun j hj y => j1 j hj ((h j hj).mpr y), j2⟩⟩
theorem sw_lr_cong {s t : Int → Nat → Prop} {n : Nat} {x : Int} (h : ∀ k j, j ≤ n → (s k j ↔ t k j)) (k : sw_lr s n x) : sw_lr t n x := by
  rcases k with ⟨a1, a2, a3, a4⟩ | ⟨a1, a2⟩
  · refine Or.inl ⟨a1, a2, fun j h0 hj y => a3 j h0 hj ((h x j hj).mpr y), fun k k1 k2 => ?_⟩
    obtain ⟨j, b1, b2, b3⟩ := a4 k k1 k2
    exact ⟨j, b1, b2, (h k j b2).mp b3⟩
  · refine Or.inr ⟨a1, fun k k1 k2 => ?_⟩
    obtain ⟨j, b1, b2, b3⟩ := a2 k k1 k2
    exact ⟨j, b1, b2, (h k j b2).mp b3⟩
theorem sw_gp_v {lim : Nat → Int} {D V A q w : Int} {f : Nat → Int} : ∀ (n : Nat) (d b : Int) (k : Nat), sw_gp lim D V A q w n d b f k → ∀ i, k ≤ i → i < k + n → -V ≤ f i ∧ f i ≤ V
  | 0, _, _, _, _, i, h1, h2 => by omega
  | n + 1, d, b, k, h, i, h1, h2 => by
    obtain ⟨s, e, hb, hg⟩ := h
    rcases Nat.eq_or_lt_of_le h1 with z | z
    · rw [← z, e]; exact sw_abs_le hb.2.2.2.2.1.1
    · exact sw_gp_v n _ _ _ hg i (by omega) (by omega)
theorem st_ticks (N : Int) (hN : 0 ≤ N ∧ N ≤ 900000) (σ : sw_S) (J : sw_J N σ σ) (q : Int) (gq : sw_g q) : sw_St M_X7_ticks M_X8_ticks [.inl q] N σ := by
  obtain ⟨⟨c, g0, w0, z0⟩, r0, l0, b0, s0⟩ := id J
  obtain ⟨hσ, hD, hV, hL, hpl, hspd, hbr, her, hmg, h61, h514, h513, h59, hro⟩ := id c
  obtain ⟨e0, e1, e10, e11, e12, e16, e17, e18, e19, e20, e32, e33, e39, er⟩ := id w0
  obtain ⟨e3, hz, hzz, hlm⟩ := id z0
  obtain ⟨hA, e2, hf, ⟨e7, hst, hsp⟩, e13⟩ := id r0
  obtain ⟨⟨el0, hl0⟩, ⟨el1, hl1⟩, ⟨ewt, hwt⟩, ⟨ekp, hkp⟩⟩ := id l0
  obtain ⟨efi, hsh⟩ := id s0
  refine ⟨_, cc_ticks σ hσ hD hV hA hL hf hpl q gq, fun r1 σ1 q1 => ?_⟩
  rcases q1 with ⟨h1, h2, h3⟩ | ⟨h1, h2, h3⟩ | ⟨h1, fk, gs1, fn1, n, h2, h3⟩
  · subst h3
    refine ⟨_, mm_ticks σ hσ (by omega) (by omega) (by omega) (by omega) (σ 2) (fun j hj => by exact (hlm j (by omega)).symm) (fun x x1 x2 => by exact (hL x x1 (by omega)).1) (by omega)  q gq, fun r2 σ2 q2 => ?_⟩
    rcases q2 with ⟨m1, m2, m3⟩ | ⟨m1, m2, m3⟩ | ⟨m1, m2, m3⟩
    · subst m3; exact ⟨_, h2, m2, sw_J_mono (N := N) (by omega) J⟩
    · exfalso; omega
    · exfalso; omega
  · subst h3
    refine ⟨_, mm_ticks σ hσ (by omega) (by omega) (by omega) (by omega) (σ 2) (fun j hj => by exact (hlm j (by omega)).symm) (fun x x1 x2 => by exact (hL x x1 (by omega)).1) (by omega)  q gq, fun r2 σ2 q2 => ?_⟩
    rcases q2 with ⟨m1, m2, m3⟩ | ⟨m1, m2, m3⟩ | ⟨m1, m2, m3⟩
    · exfalso; omega
    · subst m3; exact ⟨_, h2, m2, sw_J_mono (N := N) (by omega) J⟩
    · exfalso; omega
  · have fc : sw_fkc 25 σ σ1 := sw_fk_c fk
    have k26 : σ1 26 = σ 26 := sw_fkc_m (by decide) fc 26 (by decide)
    have elm : ∀ j, sw_lm σ1 j = sw_lm σ j := sw_lm_row k26 (sw_fkc_m (by decide) fc 27 (by decide)) (sw_fkc_m (by decide) fc 28 (by decide)) (sw_fkc_m (by decide) fc 29 (by decide))
    refine ⟨_, mm_ticks σ1 gs1 (by rw [k26]; omega) (by rw [k26]; omega) (by rw [k26]; omega) (by rw [k26]; omega) (σ 2) (fun j hj => by rw [elm]; rw [k26] at hj; exact (hlm j (by omega)).symm) (fun x x1 x2 => by rw [k26] at x2; exact (hL x x1 (by omega)).1) (by rw [k26]; omega)  q gq, fun r2 σ2 q2 => ?_⟩
    rw [k26, e0, e1, e2, e10] at q2
    rcases q2 with ⟨m1, m2, m3⟩ | ⟨m1, m2, m3⟩ | ⟨m1, fr, gs2, m, m2, m3⟩
    · exfalso; omega
    · exfalso; omega
    · have e := sw_isn_one h3 m3.1
      subst e
      exact ⟨_, h2, m2, sw_J_mono (N := N) (by omega) (sw_J_plan J gs2 fc fn1 fr)⟩
theorem st_speed (N : Int) (hN : 0 ≤ N ∧ N ≤ 900000) (σ : sw_S) (J : sw_J N σ σ) (q t : Int) (gq : sw_g q) (gt : sw_g t) : sw_St M_X7_speed M_X8_speed [.inl q, .inl t] N σ := by
  obtain ⟨⟨c, g0, w0, z0⟩, r0, l0, b0, s0⟩ := id J
  obtain ⟨hσ, hD, hV, hL, hpl, hspd, hbr, her, hmg, h61, h514, h513, h59, hro⟩ := id c
  obtain ⟨e0, e1, e10, e11, e12, e16, e17, e18, e19, e20, e32, e33, e39, er⟩ := id w0
  obtain ⟨e3, hz, hzz, hlm⟩ := id z0
  obtain ⟨hA, e2, hf, ⟨e7, hst, hsp⟩, e13⟩ := id r0
  obtain ⟨⟨el0, hl0⟩, ⟨el1, hl1⟩, ⟨ewt, hwt⟩, ⟨ekp, hkp⟩⟩ := id l0
  obtain ⟨efi, hsh⟩ := id s0
  refine ⟨_, cc_speed σ hσ hD hV hA hL hf hpl q t gq gt, fun r1 σ1 q1 => ?_⟩
  rcases q1 with ⟨h1, h2, h3⟩ | ⟨h1, h2, h3⟩ | ⟨h1, fk, gs1, fn1, n, h2, h3⟩
  · subst h3
    refine ⟨_, mm_speed σ hσ (by omega) (by omega) (by omega) (by omega) (σ 2) (fun j hj => by exact (hlm j (by omega)).symm) (fun x x1 x2 => by exact (hL x x1 (by omega)).1) (by omega)  q t gq gt, fun r2 σ2 q2 => ?_⟩
    rcases q2 with ⟨m1, m2, m3⟩ | ⟨m1, m2, m3⟩ | ⟨m1, m2, m3⟩
    · subst m3; exact ⟨_, h2, m2, sw_J_mono (N := N) (by omega) J⟩
    · exfalso; omega
    · exfalso; omega
  · subst h3
    refine ⟨_, mm_speed σ hσ (by omega) (by omega) (by omega) (by omega) (σ 2) (fun j hj => by exact (hlm j (by omega)).symm) (fun x x1 x2 => by exact (hL x x1 (by omega)).1) (by omega)  q t gq gt, fun r2 σ2 q2 => ?_⟩
    rcases q2 with ⟨m1, m2, m3⟩ | ⟨m1, m2, m3⟩ | ⟨m1, m2, m3⟩
    · exfalso; omega
    · subst m3; exact ⟨_, h2, m2, sw_J_mono (N := N) (by omega) J⟩
    · exfalso; omega
  · have fc : sw_fkc 25 σ σ1 := fk
    have k26 : σ1 26 = σ 26 := sw_fkc_m (by decide) fc 26 (by decide)
    have elm : ∀ j, sw_lm σ1 j = sw_lm σ j := sw_lm_row k26 (sw_fkc_m (by decide) fc 27 (by decide)) (sw_fkc_m (by decide) fc 28 (by decide)) (sw_fkc_m (by decide) fc 29 (by decide))
    refine ⟨_, mm_speed σ1 gs1 (by rw [k26]; omega) (by rw [k26]; omega) (by rw [k26]; omega) (by rw [k26]; omega) (σ 2) (fun j hj => by rw [elm]; rw [k26] at hj; exact (hlm j (by omega)).symm) (fun x x1 x2 => by rw [k26] at x2; exact (hL x x1 (by omega)).1) (by rw [k26]; omega)  q t gq gt, fun r2 σ2 q2 => ?_⟩
    rw [k26, e0, e1, e2, e10] at q2
    rcases q2 with ⟨m1, m2, m3⟩ | ⟨m1, m2, m3⟩ | ⟨m1, fr, gs2, m, m2, m3⟩
    · exfalso; omega
    · exfalso; omega
    · obtain ⟨e, ee⟩ := sw_isr_one h3 m3
      subst e
      refine ⟨_, h2, m2.trans (congrArg (fun z : Int => some (Sum.inl z)) ?_), sw_J_mono (N := N) (by omega) (sw_J_plan J gs2 fc fn1 fr)⟩
      by_cases z : 1 ≤ t ∧ t ≤ (n : Int)
      · rw [if_pos z, if_pos z]; exact (ee _ (by omega)).symm
      · rw [if_neg z, if_neg z]
theorem st_slipAt (N : Int) (hN : 0 ≤ N ∧ N ≤ 900000) (σ : sw_S) (J : sw_J N σ σ) (q : Int) (gq : sw_g q) : sw_St M_X7_slipAt M_X8_slipAt [.inl q] N σ := by
  obtain ⟨⟨c, g0, w0, z0⟩, r0, l0, b0, s0⟩ := id J
  obtain ⟨hσ, hD, hV, hL, hpl, hspd, hbr, her, hmg, h61, h514, h513, h59, hro⟩ := id c
  obtain ⟨e0, e1, e10, e11, e12, e16, e17, e18, e19, e20, e32, e33, e39, er⟩ := id w0
  obtain ⟨e3, hz, hzz, hlm⟩ := id z0
  obtain ⟨hA, e2, hf, ⟨e7, hst, hsp⟩, e13⟩ := id r0
  obtain ⟨⟨el0, hl0⟩, ⟨el1, hl1⟩, ⟨ewt, hwt⟩, ⟨ekp, hkp⟩⟩ := id l0
  obtain ⟨efi, hsh⟩ := id s0
  refine ⟨_, cc_slipAt σ hσ hD hV hA hL hf hpl hl0 hl1 hwt hkp q gq, fun r1 σ1 q1 => ?_⟩
  rcases q1 with ⟨h1, h2, h3⟩ | ⟨h1, h2, h3⟩ | ⟨h1, fk, gs1, fn1, n, x, h2, h3, h4⟩
  · subst h3
    refine ⟨_, mm_slipAt σ hσ (by omega) (by omega) (by omega) (by omega) (σ 2) (fun j hj => by exact (hlm j (by omega)).symm) (fun x x1 x2 => by exact (hL x x1 (by omega)).1) (by omega) (by omega) (by omega) (by omega) (by omega) q gq, fun r2 σ2 q2 => ?_⟩
    rcases q2 with ⟨m1, m2, m3⟩ | ⟨m1, m2, m3⟩ | ⟨m1, m2, m3⟩
    · subst m3; exact ⟨_, h2, m2, sw_J_mono (N := N) (by omega) J⟩
    · exfalso; omega
    · exfalso; omega
  · subst h3
    refine ⟨_, mm_slipAt σ hσ (by omega) (by omega) (by omega) (by omega) (σ 2) (fun j hj => by exact (hlm j (by omega)).symm) (fun x x1 x2 => by exact (hL x x1 (by omega)).1) (by omega) (by omega) (by omega) (by omega) (by omega) q gq, fun r2 σ2 q2 => ?_⟩
    rcases q2 with ⟨m1, m2, m3⟩ | ⟨m1, m2, m3⟩ | ⟨m1, m2, m3⟩
    · exfalso; omega
    · subst m3; exact ⟨_, h2, m2, sw_J_mono (N := N) (by omega) J⟩
    · exfalso; omega
  · have fc : sw_fkc 25 σ σ1 := fk
    have k26 : σ1 26 = σ 26 := sw_fkc_m (by decide) fc 26 (by decide)
    have elm : ∀ j, sw_lm σ1 j = sw_lm σ j := sw_lm_row k26 (sw_fkc_m (by decide) fc 27 (by decide)) (sw_fkc_m (by decide) fc 28 (by decide)) (sw_fkc_m (by decide) fc 29 (by decide))
    refine ⟨_, mm_slipAt σ1 gs1 (by rw [k26]; omega) (by rw [k26]; omega) (by rw [k26]; omega) (by rw [k26]; omega) (σ 2) (fun j hj => by rw [elm]; rw [k26] at hj; exact (hlm j (by omega)).symm) (fun x x1 x2 => by rw [k26] at x2; exact (hL x x1 (by omega)).1) (by rw [k26]; omega) (by rw [k26]; omega) (by rw [k26]; omega) (by rw [k26]; omega) (by rw [k26]; omega) q gq, fun r2 σ2 q2 => ?_⟩
    rw [k26, e0, e1, e2, e10] at q2
    rcases q2 with ⟨m1, m2, m3⟩ | ⟨m1, m2, m3⟩ | ⟨m1, fr, gs2, m, y, m2, m3, m4⟩
    · exfalso; omega
    · exfalso; omega
    · obtain ⟨e, ee⟩ := sw_isr_one h3 m3
      subst e
      rw [el0, el1, ewt, ekp] at m4
      have e := sw_fs_one (sw_fs_cong (fun j hj => sw_sl_cong ee hj) h4) m4
      subst e
      exact ⟨_, h2, m2, sw_J_mono (N := N) (by omega) (sw_J_plan J gs2 fc fn1 fr)⟩
theorem st_hold (N : Int) (hN : 0 ≤ N ∧ N ≤ 900000) (σ : sw_S) (J : sw_J N σ σ) (q : Int) (gq : sw_g q) : sw_St M_X7_hold M_X8_hold [.inl q] N σ := by
  obtain ⟨⟨c, g0, w0, z0⟩, r0, l0, b0, s0⟩ := id J
  obtain ⟨hσ, hD, hV, hL, hpl, hspd, hbr, her, hmg, h61, h514, h513, h59, hro⟩ := id c
  obtain ⟨e0, e1, e10, e11, e12, e16, e17, e18, e19, e20, e32, e33, e39, er⟩ := id w0
  obtain ⟨e3, hz, hzz, hlm⟩ := id z0
  obtain ⟨hA, e2, hf, ⟨e7, hst, hsp⟩, e13⟩ := id r0
  obtain ⟨⟨el0, hl0⟩, ⟨el1, hl1⟩, ⟨ewt, hwt⟩, ⟨ekp, hkp⟩⟩ := id l0
  obtain ⟨efi, hsh⟩ := id s0
  refine ⟨_, cc_hold σ hσ hD hV hA hL hf hpl hl0 hl1 hwt hkp q gq, fun r1 σ1 q1 => ?_⟩
  rcases q1 with ⟨h1, h2, h3⟩ | ⟨h1, h2, h3⟩ | ⟨h1, fk, gs1, fn1, n, x, h2, h3, h4⟩
  · subst h3
    refine ⟨_, mm_hold σ hσ (by omega) (by omega) (by omega) (by omega) (σ 2) (fun j hj => by exact (hlm j (by omega)).symm) (fun x x1 x2 => by exact (hL x x1 (by omega)).1) (by omega) (by omega) (by omega) (by omega) q gq, fun r2 σ2 q2 => ?_⟩
    rcases q2 with ⟨m1, m2, m3⟩ | ⟨m1, m2, m3⟩ | ⟨m1, m2, m3⟩
    · subst m3; exact ⟨_, h2, m2, sw_J_mono (N := N) (by omega) J⟩
    · exfalso; omega
    · exfalso; omega
  · subst h3
    refine ⟨_, mm_hold σ hσ (by omega) (by omega) (by omega) (by omega) (σ 2) (fun j hj => by exact (hlm j (by omega)).symm) (fun x x1 x2 => by exact (hL x x1 (by omega)).1) (by omega) (by omega) (by omega) (by omega) q gq, fun r2 σ2 q2 => ?_⟩
    rcases q2 with ⟨m1, m2, m3⟩ | ⟨m1, m2, m3⟩ | ⟨m1, m2, m3⟩
    · exfalso; omega
    · subst m3; exact ⟨_, h2, m2, sw_J_mono (N := N) (by omega) J⟩
    · exfalso; omega
  · have fc : sw_fkc 25 σ σ1 := fk
    have k26 : σ1 26 = σ 26 := sw_fkc_m (by decide) fc 26 (by decide)
    have elm : ∀ j, sw_lm σ1 j = sw_lm σ j := sw_lm_row k26 (sw_fkc_m (by decide) fc 27 (by decide)) (sw_fkc_m (by decide) fc 28 (by decide)) (sw_fkc_m (by decide) fc 29 (by decide))
    refine ⟨_, mm_hold σ1 gs1 (by rw [k26]; omega) (by rw [k26]; omega) (by rw [k26]; omega) (by rw [k26]; omega) (σ 2) (fun j hj => by rw [elm]; rw [k26] at hj; exact (hlm j (by omega)).symm) (fun x x1 x2 => by rw [k26] at x2; exact (hL x x1 (by omega)).1) (by rw [k26]; omega) (by rw [k26]; omega) (by rw [k26]; omega) (by rw [k26]; omega) q gq, fun r2 σ2 q2 => ?_⟩
    rw [k26, e0, e1, e2, e10] at q2
    rcases q2 with ⟨m1, m2, m3⟩ | ⟨m1, m2, m3⟩ | ⟨m1, fr, gs2, m, y, m2, m3, m4⟩
    · exfalso; omega
    · exfalso; omega
    · obtain ⟨e, ee⟩ := sw_isr_one h3 m3
      subst e
      rw [el0, el1, ewt] at m4
      have e := sw_lr_one (sw_lr_cong (fun k j hj => sw_sl_cong ee hj) h4) m4
      subst e
      exact ⟨_, h2, m2, sw_J_mono (N := N) (by omega) (sw_J_plan J gs2 fc fn1 fr)⟩
theorem st_shift (N : Int) (hN : 0 ≤ N ∧ N ≤ 900000) (σ : sw_S) (J : sw_J N σ σ) (q n c b : Int) (gq : sw_g q) (gn : sw_g n) (gc : sw_g c) (gb : sw_g b) : sw_St M_X7_shift M_X8_shift [.inl q, .inl n, .inl c, .inl b] N σ := by
  obtain ⟨⟨cc, g0, w0, z0⟩, r0, l0, b0, s0⟩ := id J
  obtain ⟨hσ, hD, hV, hL, hpl, hspd, hbr, her, hmg, h61, h514, h513, h59, hro⟩ := id cc
  obtain ⟨e0, e1, e10, e11, e12, e16, e17, e18, e19, e20, e32, e33, e39, er⟩ := id w0
  obtain ⟨e3, hz, hzz, hlm⟩ := id z0
  obtain ⟨hA, e2, hf, ⟨e7, hst, hsp⟩, e13⟩ := id r0
  obtain ⟨⟨el0, hl0⟩, ⟨el1, hl1⟩, ⟨ewt, hwt⟩, ⟨ekp, hkp⟩⟩ := id l0
  obtain ⟨efi, hsh⟩ := id s0
  refine ⟨_, cc_shift σ hσ hD hV hA hL hf q n c b gq gn gc gb, fun r1 σ1 q1 => ?_⟩
  rcases q1 with ⟨h1, h2, h3⟩ | ⟨h1, fk, gs1, fn1, m, h2, h3⟩
  · subst h3
    refine ⟨_, mm_shift σ hσ (by omega) (by omega) (by omega) (by omega) (σ 2) (fun j hj => by exact (hlm j (by omega)).symm) (fun x x1 x2 => by exact (hL x x1 (by omega)).1) q n c b gq gn gc gb, fun r2 σ2 q2 => ?_⟩
    rcases q2 with ⟨m1, m2, m3⟩ | ⟨m1, m2, m3⟩
    · subst m3; exact ⟨_, h2, m2, sw_J_mono (N := N) (by omega) J⟩
    · exfalso; omega
  · have fc : sw_fkc 25 σ σ1 := sw_fk_c fk
    have k26 : σ1 26 = σ 26 := sw_fkc_m (by decide) fc 26 (by decide)
    have elm : ∀ j, sw_lm σ1 j = sw_lm σ j := sw_lm_row k26 (sw_fkc_m (by decide) fc 27 (by decide)) (sw_fkc_m (by decide) fc 28 (by decide)) (sw_fkc_m (by decide) fc 29 (by decide))
    refine ⟨_, mm_shift σ1 gs1 (by rw [k26]; omega) (by rw [k26]; omega) (by rw [k26]; omega) (by rw [k26]; omega) (σ 2) (fun j hj => by rw [elm]; rw [k26] at hj; exact (hlm j (by omega)).symm) (fun x x1 x2 => by rw [k26] at x2; exact (hL x x1 (by omega)).1) q n c b gq gn gc gb, fun r2 σ2 q2 => ?_⟩
    rw [k26, e0, e1, e2] at q2
    rcases q2 with ⟨m1, m2, m3⟩ | ⟨m1, fr, gs2, y, m2, m3⟩
    · exfalso; omega
    · have e := sw_isn_one h3 m3
      subst e
      exact ⟨_, h2, m2.trans (congrArg (fun z : Int => some (Sum.inl z)) (by rw [show 2 * b + (m : Int) = b + m + b by omega])), sw_J_mono (N := N) (by omega) (sw_J_plan J gs2 fc fn1 fr)⟩
theorem st_both (N : Int) (hN : 0 ≤ N ∧ N ≤ 900000) (σ : sw_S) (J : sw_J N σ σ) (n c b : Int) (gn : sw_g n) (gc : sw_g c) (gb : sw_g b) : sw_St M_X7_both M_X8_both [.inl n, .inl c, .inl b] N σ := by
  obtain ⟨⟨cc, g0, w0, z0⟩, r0, l0, b0, s0⟩ := id J
  obtain ⟨hσ, hD, hV, hL, hpl, hspd, hbr, her, hmg, h61, h514, h513, h59, hro⟩ := id cc
  obtain ⟨e0, e1, e10, e11, e12, e16, e17, e18, e19, e20, e32, e33, e39, er⟩ := id w0
  obtain ⟨e3, hz, hzz, hlm⟩ := id z0
  obtain ⟨hA, e2, hf, ⟨e7, hst, hsp⟩, e13⟩ := id r0
  obtain ⟨⟨el0, hl0⟩, ⟨el1, hl1⟩, ⟨ewt, hwt⟩, ⟨ekp, hkp⟩⟩ := id l0
  obtain ⟨efi, hsh⟩ := id s0
  refine ⟨_, cc_both σ hσ hD hV hA hL hf n c b gn gc gb, fun r1 σ1 q1 => ?_⟩
  rcases q1 with ⟨h1, h2, h3⟩ | ⟨h1, fk, gs1, fn1, m, h2, h3⟩
  · subst h3
    refine ⟨_, mm_both σ hσ (by omega) (by omega) (by omega) (by omega) (σ 2) (fun j hj => by exact (hlm j (by omega)).symm) (fun x x1 x2 => by exact (hL x x1 (by omega)).1) n c b gn gc gb, fun r2 σ2 q2 => ?_⟩
    rcases q2 with ⟨m1, m2, m3⟩ | ⟨m1, m2, m3⟩
    · subst m3; exact ⟨_, h2, m2, sw_J_mono (N := N) (by omega) J⟩
    · exfalso; omega
  · have fc : sw_fkc 25 σ σ1 := sw_fk_c fk
    have k26 : σ1 26 = σ 26 := sw_fkc_m (by decide) fc 26 (by decide)
    have elm : ∀ j, sw_lm σ1 j = sw_lm σ j := sw_lm_row k26 (sw_fkc_m (by decide) fc 27 (by decide)) (sw_fkc_m (by decide) fc 28 (by decide)) (sw_fkc_m (by decide) fc 29 (by decide))
    refine ⟨_, mm_both σ1 gs1 (by rw [k26]; omega) (by rw [k26]; omega) (by rw [k26]; omega) (by rw [k26]; omega) (σ 2) (fun j hj => by rw [elm]; rw [k26] at hj; exact (hlm j (by omega)).symm) (fun x x1 x2 => by rw [k26] at x2; exact (hL x x1 (by omega)).1) n c b gn gc gb, fun r2 σ2 q2 => ?_⟩
    rw [k26, e0, e1, e2] at q2
    rcases q2 with ⟨m1, m2, m3⟩ | ⟨m1, fr, gs2, y, m2, m3⟩
    · exfalso; omega
    · have e := sw_isn_one h3 m3
      subst e
      exact ⟨_, h2, m2, sw_J_mono (N := N) (by omega) (sw_J_plan J gs2 fc fn1 fr)⟩
theorem st_digest (N : Int) (σ : sw_S) (J : sw_J N σ σ) : ∃ Q1 : Option sw_Vl → sw_S → Prop, sw_Con sw_ly sw_rho M_X7_digest [.inr (.inr 0)] σ Q1 ∧ ∀ r1 σ1, Q1 r1 σ1 → ∃ Q2 : Option sw_Vl → sw_S → Prop, sw_Con sw_ly sw_rho M_X8_digest [.inr (.inr 26)] σ1 Q2 ∧ ∀ r2 σ2, Q2 r2 σ2 → ∃ x : Int, r1 = some (.inr (.inl x)) ∧ r2 = some (.inr (.inl x)) ∧ sw_J (N + 400) σ2 σ2 := by
  obtain ⟨⟨c, g0, w0, z0⟩, r0, l0, b0, s0⟩ := id J
  obtain ⟨hσ, hD, hV, hL, hpl, hspd, hbr, her, hmg, h61, h514, h513, h59, hro⟩ := id c
  obtain ⟨e0, e1, e10, e11, e12, e16, e17, e18, e19, e20, e32, e33, e39, er⟩ := id w0
  obtain ⟨e3, hz, hzz, hlm⟩ := id z0
  obtain ⟨hA, e2, hf, ⟨e7, hst, hsp⟩, e13⟩ := id r0
  obtain ⟨⟨el0, hl0⟩, ⟨el1, hl1⟩, ⟨ewt, hwt⟩, ⟨ekp, hkp⟩⟩ := id l0
  obtain ⟨efi, hsh⟩ := id s0
  refine ⟨_, cc_digest σ N c, fun r1 σ1 q1 => ?_⟩
  obtain ⟨rfl, q1⟩ := q1
  refine ⟨_, mm_digest σ N (sw_jp_v J.1) hσ, fun r2 σ2 q2 => ?_⟩
  obtain ⟨rfl, q2⟩ := q2
  refine ⟨_, q1, q2.trans (congrArg (fun z : Int => some (Sum.inr (Sum.inl z))) ?_), sw_J_mono (N := N) (by omega) J⟩
  rw [sw_hs_cong 17 12 (fun j _ => sw_st_eq J (j : Int)), sw_hs_cong _ 60 (fun j hj => (b0 j hj).1), e12]
  by_cases z : σ 5 9 = 1
  · obtain ⟨r1, r2, r3⟩ := er z
    have hh := (sw_ck_ro c z).2.2
    rw [if_pos z, if_pos z, r1, r2]
    exact sw_hs_cong _ _ (fun j hj => r3 _ (by omega))
  · rw [if_neg z, if_neg z]
    rfl
theorem sw_ch_fr : ∀ (n : Nat) (a b : sw_S), sw_ch sw_cst n a b → ∀ i j, i ≠ 7 → ¬ (i = 6 ∧ j = 1) → ¬ (i = 5 ∧ (j = 6 ∨ j = 7 ∨ j = 8 ∨ j = 9 ∨ j = 13 ∨ j = 14)) → b i j = a i j
  | 0, a, b, h, i, j, _, _, _ => by rw [show a = b from h]
  | n + 1, a, b, h, i, j, h1, h2, h3 => by
    obtain ⟨x, k1, k2⟩ := h
    exact (k2.1 i j h1 h2 h3).trans (sw_ch_fr n a x k1 i j h1 h2 h3)
theorem sw_jp_rows {N : Int} {a τ a' τ' : sw_S} (ha : ∀ i, i < 26 → a' i = a i) (ht : ∀ i, 26 ≤ i → τ' i = τ i) (ga : sw_gs a') (gt : sw_gs τ') (h : sw_jp N a τ) : sw_jp N a' τ' := by
  have a1 := ha 1 (by decide)
  have a2 := ha 2 (by decide)
  have a5 := ha 5 (by decide)
  have a6 := ha 6 (by decide)
  have a7 := ha 7 (by decide)
  have a8 := ha 8 (by decide)
  have a9 := ha 9 (by decide)
  have a10 := ha 10 (by decide)
  have t26 := ht 26 (by decide)
  have t27 := ht 27 (by decide)
  have t28 := ht 28 (by decide)
  have t29 := ht 29 (by decide)
  have t32 := ht 32 (by decide)
  have t33 := ht 33 (by decide)
  have t34 := ht 34 (by decide)
  have t39 := ht 39 (by decide)
  obtain ⟨⟨c1, c2⟩, c3, c4, c5⟩ := h
  unfold sw_jp sw_ck sw_ro sw_jw sw_jz sw_lm
  unfold sw_ro at c2
  unfold sw_jw at c4
  unfold sw_jz sw_lm at c5
  rw [a1, a2, a5, a6, a7, a8, a9, a10, t26, t27, t28, t29, t32, t33, t34, t39]
  exact ⟨⟨ga, c2⟩, gt, c4, c5⟩
theorem st_pass (N : Int) (hN : 0 ≤ N ∧ N ≤ 900000) (σ : sw_S) (J : sw_J N σ σ) (k : Int) (gk : sw_g k) : sw_St M_X7_pass M_X8_pass [.inl k] N σ := by
  obtain ⟨⟨c, g0, w0, z0⟩, r0, l0, b0, s0⟩ := id J
  obtain ⟨hσ, hD, hV, hL, hpl, hspd, hbr, her, hmg, h61, h514, h513, h59, hro⟩ := id c
  obtain ⟨e0, e1, e10, e11, e12, e16, e17, e18, e19, e20, e32, e33, e39, er⟩ := id w0
  obtain ⟨e3, hz, hzz, hlm⟩ := id z0
  obtain ⟨hA, e2, hf, ⟨e7, hst, hsp⟩, e13⟩ := id r0
  obtain ⟨⟨el0, hl0⟩, ⟨el1, hl1⟩, ⟨ewt, hwt⟩, ⟨ekp, hkp⟩⟩ := id l0
  obtain ⟨efi, hsh⟩ := id s0
  refine ⟨_, cc_pass σ N hN c k gk, fun r1 σ1 q1 => ?_⟩
  rcases q1 with ⟨h1, h2, h3⟩ | ⟨h1, ck1, hch, h2⟩
  · subst h3
    refine ⟨_, mm_pass σ N hN (fun _ => σ) J.1 k gk (fun h i hi => by omega), fun r2 σ2 q2 => ?_⟩
    rcases q2 with ⟨m1, m2, m3⟩ | ⟨m1, m2, m3⟩
    · subst m3; exact ⟨_, h2, m2, sw_J_mono (N := N) (by omega) J⟩
    · exact absurd m1 h1
  · have fr1 := sw_ch_fr _ _ _ hch
    obtain ⟨f, f1, f2, f3⟩ := sw_ch_fn _ _ _ hch
    have j0 : sw_jp N (f 0) σ1 := by
      rw [f1]
      exact sw_jp_rows (fun _ _ => rfl) (fun i hi => funext fun j => fr1 i j (by omega) (by omega) (by omega)) hσ ck1.1 J.1
    refine ⟨_, mm_pass σ1 N hN f j0 k gk (fun _ => f3), fun r2 σ2 q2 => ?_⟩
    rcases q2 with ⟨m1, m2, m3⟩ | ⟨m1, jp, fr2, m2⟩
    · exact absurd h1 m1
    · rw [f2] at jp
      have ra : ∀ i, i < 26 → σ2 i = σ1 i := fun i hi => funext fun j => fr2 i j (by omega) (by omega)
      have jp2 : sw_jp (N + k) σ2 σ2 := sw_jp_rows ra (fun _ _ => rfl) jp.2.1 jp.2.1 jp
      have ex : σ2 26 12 = σ1 5 9 := jp.2.2.1.2.2.2.2.1
      refine ⟨_, h2, m2.trans (congrArg (fun z : Int => some (Sum.inl z)) ex), sw_J_mono (N := N + k) (by omega) ?_⟩
      have rc : ∀ i, i < 26 → i ≠ 7 → i ≠ 6 → i ≠ 5 → σ2 i = σ i := fun i h1 h2 h3 h4 => (ra i h1).trans (funext fun j => fr1 i j h2 (by omega) (by omega))
      have rm : ∀ i, 26 ≤ i → i ≠ 39 → i ≠ 26 → σ2 i = σ i := fun i h1 h2 h3 => funext fun j => (fr2 i j h2 (by omega)).trans (fr1 i j (by omega) (by omega) (by omega))
      have m26 : ∀ j, ¬ (j = 10 ∨ j = 11 ∨ j = 12 ∨ j = 18 ∨ j = 19 ∨ j = 20 ∨ j = 23) → σ2 26 j = σ 26 j := fun j hj => (fr2 26 j (by decide) (by omega)).trans (fr1 26 j (by decide) (by omega) (by omega))
      have c510 : σ2 5 10 = σ 5 10 := by rw [ra 5 (by decide)]; exact fr1 5 10 (by decide) (by omega) (by omega)
      refine ⟨jp2, ⟨?_, ?_, ?_, ⟨?_, ?_, ?_⟩, ?_⟩, ?_, ?_, ?_⟩
      · rw [rc 1 (by decide) (by decide) (by decide) (by decide)]; exact hA
      · rw [m26 2 (by decide), rc 1 (by decide) (by decide) (by decide) (by decide)]; exact e2
      · exact sw_fn_row (rc 1 (by decide) (by decide) (by decide) (by decide)) (rc 2 (by decide) (by decide) (by decide) (by decide)) (rc 3 (by decide) (by decide) (by decide) (by decide)) (rc 4 (by decide) (by decide) (by decide) (by decide)) hf
      · rw [m26 7 (by decide), rc 0 (by decide) (by decide) (by decide) (by decide)]; exact e7
      · rw [rc 0 (by decide) (by decide) (by decide) (by decide)]; exact hst
      · rw [rc 0 (by decide) (by decide) (by decide) (by decide), rc 1 (by decide) (by decide) (by decide) (by decide), rc 23 (by decide) (by decide) (by decide) (by decide), rc 24 (by decide) (by decide) (by decide) (by decide), rm 30 (by decide) (by decide) (by decide), rm 31 (by decide) (by decide) (by decide)]; exact hsp
      · rw [m26 13 (by decide), c510]; exact e13
      · unfold sw_jl
        rw [m26 29 (by decide), m26 30 (by decide), m26 31 (by decide), m26 32 (by decide), rc 11 (by decide) (by decide) (by decide) (by decide)]
        exact l0
      · unfold sw_jb
        rw [rm 40 (by decide) (by decide) (by decide), rc 13 (by decide) (by decide) (by decide) (by decide)]
        exact b0
      · unfold sw_js sw_jt
        rw [m26 39 (by decide), rc 0 (by decide) (by decide) (by decide) (by decide), rm 41 (by decide) (by decide) (by decide), rm 42 (by decide) (by decide) (by decide), rm 43 (by decide) (by decide) (by decide), rm 44 (by decide) (by decide) (by decide), rc 15 (by decide) (by decide) (by decide) (by decide), rc 16 (by decide) (by decide) (by decide) (by decide), rc 17 (by decide) (by decide) (by decide) (by decide), rc 18 (by decide) (by decide) (by decide) (by decide), rc 19 (by decide) (by decide) (by decide) (by decide), rc 20 (by decide) (by decide) (by decide) (by decide), rc 21 (by decide) (by decide) (by decide) (by decide), rc 22 (by decide) (by decide) (by decide) (by decide)]
        exact s0
theorem st_begin (N : Int) (hN : 0 ≤ N ∧ N ≤ 900000) (σ : sw_S) (J : sw_J N σ σ) (s : Int) (gs : sw_g s) : sw_St M_X7_begin M_X8_begin [.inl s] N σ := by
  obtain ⟨⟨c, g0, w0, z0⟩, r0, l0, b0, s0⟩ := id J
  obtain ⟨hσ, hD, hV, hL, hpl, hspd, hbr, her, hmg, h61, h514, h513, h59, hro⟩ := id c
  obtain ⟨e0, e1, e10, e11, e12, e16, e17, e18, e19, e20, e32, e33, e39, er⟩ := id w0
  obtain ⟨e3, hz, hzz, hlm⟩ := id z0
  obtain ⟨hA, e2, hf, ⟨e7, hst, hsp⟩, e13⟩ := id r0
  obtain ⟨⟨el0, hl0⟩, ⟨el1, hl1⟩, ⟨ewt, hwt⟩, ⟨ekp, hkp⟩⟩ := id l0
  obtain ⟨efi, hsh⟩ := id s0
  have hsp1 : ∀ j : Nat, (j : Int) < σ 0 8 → 0 ≤ σ 23 j ∧ σ 23 j ≤ σ 1 0 := fun j hj => (hsp j hj).2.2
  have hsp2 : ∀ j : Nat, (j : Int) < σ 26 7 → 0 ≤ σ 30 j ∧ σ 30 j ≤ σ 26 0 := fun j hj => by rw [(hsp j (by omega)).1, e0]; exact hsp1 j (by omega)
  have ecn : sw_cnt (σ 32) 8 = sw_cnt (σ 8) 8 := sw_cnt_cong 8 e32
  refine ⟨_, cc_begin σ hσ hD hV hA hL hf hpl hst hsp1 s gs, fun r1 σ1 q1 => ?_⟩
  rcases q1 with ⟨h1, h2, h3⟩ | ⟨h1, h2, h3⟩ | ⟨h1, n, τ, h2, fk, gt, fnt, hr, h3⟩
  · subst h3
    refine ⟨_, mm_begin σ hσ (by omega) (by omega) (by omega) (by omega) (σ 2) (fun j hj => by exact (hlm j (by omega)).symm) (fun x x1 x2 => by exact (hL x x1 (by omega)).1) (by omega) (by omega) hsp2 s gs, fun r2 σ2 q2 => ?_⟩
    rcases q2 with ⟨m1, m2, m3⟩ | ⟨m1, m2, m3⟩ | ⟨m1, m2, m3⟩
    · subst m3; exact ⟨_, h2, m2, sw_J_mono (N := N) (by omega) J⟩
    · exfalso; omega
    · exfalso; omega
  · subst h3
    refine ⟨_, mm_begin σ hσ (by omega) (by omega) (by omega) (by omega) (σ 2) (fun j hj => by exact (hlm j (by omega)).symm) (fun x x1 x2 => by exact (hL x x1 (by omega)).1) (by omega) (by omega) hsp2 s gs, fun r2 σ2 q2 => ?_⟩
    have e31 := (hsp s.toNat (by omega)).2.1
    rcases q2 with ⟨m1, m2, m3⟩ | ⟨m1, m2, m3⟩ | ⟨m1, m2, m3⟩
    · exfalso; omega
    · subst m3; exact ⟨_, h2, m2, sw_J_mono (N := N) (by omega) J⟩
    · exfalso; omega
  · have gs1 : sw_gs σ1 := by rw [← h3]; exact sw_gs_u (sw_gs_u (sw_gs_u (sw_gs_u gt 5 10 sw_g0) 5 5 (by have := hr.1.1; omega)) 5 6 sw_g0) 5 9 (sw_ite_g (by decide) (by decide))
    have km : ∀ i, 26 ≤ i → σ1 i = σ i := fun i hi => by
      rw [← h3]
      funext j
      rw [sw_u_row _ _ (by omega), sw_u_row _ _ (by omega), sw_u_row _ _ (by omega), sw_u_row _ _ (by omega)]
      exact congrFun (sw_fkc_m (by decide) fk i hi) j
    have k26 := km 26 (by decide)
    have elm : ∀ j, sw_lm σ1 j = sw_lm σ j := sw_lm_row k26 (km 27 (by decide)) (km 28 (by decide)) (km 29 (by decide))
    refine ⟨_, mm_begin σ1 gs1 (by rw [k26]; omega) (by rw [k26]; omega) (by rw [k26]; omega) (by rw [k26]; omega) (σ 2) (fun j hj => by rw [elm]; rw [k26] at hj; exact (hlm j (by omega)).symm) (fun x x1 x2 => by rw [k26] at x2; exact (hL x x1 (by omega)).1) (by rw [k26]; omega) (by rw [k26]; omega) (by rw [k26, km 30 (by decide)]; exact hsp2) s gs, fun r2 σ2 q2 => ?_⟩
    have e30 := (hsp s.toNat (by omega)).1
    have e31 := (hsp s.toNat (by omega)).2.1
    rw [k26, km 30 (by decide), km 31 (by decide), km 32 (by decide), e30, e31, e0, e1, e2, e10, ecn] at q2
    rcases q2 with ⟨m1, m2, m3⟩ | ⟨m1, m2, m3⟩ | ⟨m1, m, τ2, m2, fr, gt2, mr, m3⟩
    · exfalso; omega
    · exfalso; omega
    · obtain ⟨e, ee⟩ := sw_isr_one hr mr
      subst e
      have hn4 := hr.1.1
      have hrk := sw_isr_rk hA hpl hr
      have hv := sw_gp_v _ _ _ _ hr.2
      have gs2 : sw_gs σ2 := by rw [← m3]; exact sw_gs_u (sw_pf_gs (sw_gs_u (sw_gs_u gt2 26 22 (by omega)) 26 23 sw_g0) 34 n (fun j _ => gt2 38 j)) 26 12 (sw_ite_g (by decide) (by decide))
      have t2 : ∀ i j, i ≠ 34 → i ≠ 35 → i ≠ 36 → i ≠ 37 → i ≠ 38 → ¬ (i = 26 ∧ (j = 12 ∨ j = 13 ∨ j = 22 ∨ j = 23)) → σ2 i j = σ1 i j := fun i j h0 h1 h2 h3 h4 h5 => by
        rw [← m3, sw_u_ne _ _ (by omega), sw_pf_row _ _ _ h0, sw_u_ne _ _ (by omega), sw_u_ne _ _ (by omega), fr i j h1 h2 h3 h4, sw_u_ne _ _ (by omega)]
      have f1 : ∀ i j, i ≠ 3 → i ≠ 4 → i ≠ 10 → ¬ (i = 5 ∧ (j = 5 ∨ j = 6 ∨ j = 9 ∨ j = 10)) → σ1 i j = σ i j := fun i j h0 h1 h2 h4 => by
        rw [← h3, sw_u_ne _ _ (by omega), sw_u_ne _ _ (by omega), sw_u_ne _ _ (by omega), sw_u_ne _ _ (by omega)]
        exact fk i j h1 h2 (fun z => absurd z h0)
      have rc : ∀ i, i < 26 → i ≠ 3 → i ≠ 4 → i ≠ 10 → i ≠ 5 → σ2 i = σ i := fun i h0 h1 h2 h3 h4 => funext fun j => (t2 i j (by omega) (by omega) (by omega) (by omega) (by omega) (by omega)).trans (f1 i j h1 h2 h3 (by omega))
      have rm : ∀ i, 26 ≤ i → i ≠ 26 → i ≠ 34 → i ≠ 35 → i ≠ 36 → i ≠ 37 → i ≠ 38 → σ2 i = σ i := fun i h0 h1 h2 h3 h4 h5 h6 => funext fun j => (t2 i j h2 h3 h4 h5 h6 (by omega)).trans (f1 i j (by omega) (by omega) (by omega) (by omega))
      have m26 : ∀ j, ¬ (j = 12 ∨ j = 13 ∨ j = 22 ∨ j = 23) → σ2 26 j = σ 26 j := fun j hj => (t2 26 j (by decide) (by decide) (by decide) (by decide) (by decide) (by omega)).trans (f1 26 j (by decide) (by decide) (by decide) (by omega))
      have c5 : ∀ j, ¬ (j = 5 ∨ j = 6 ∨ j = 9 ∨ j = 10) → σ2 5 j = σ 5 j := fun j hj => (t2 5 j (by decide) (by decide) (by decide) (by decide) (by decide) (by omega)).trans (f1 5 j (by decide) (by decide) (by decide) (by omega))
      have x5 : ∀ j, σ2 5 j = σ1 5 j := fun j => t2 5 j (by decide) (by decide) (by decide) (by decide) (by decide) (by omega)
      have v5 : σ2 5 5 = (n : Int) := by rw [x5, ← h3]; rfl
      have v6 : σ2 5 6 = 0 := by rw [x5, ← h3]; rfl
      have v9 : σ2 5 9 = (if 0 < (n : Int) then 1 else 0) := by rw [x5, ← h3]; rfl
      have v10 : σ2 5 10 = 0 := by rw [x5, ← h3]; rfl
      have w12 : σ2 26 12 = (if 0 < (n : Int) then 1 else 0) := by rw [← m3]; rfl
      have w22 : σ2 26 22 = (n : Int) := by rw [← m3]; rfl
      have w23 : σ2 26 23 = 0 := by rw [← m3]; rfl
      have w13 : σ2 26 13 = 0 := by
        rw [← m3, sw_u_ne _ _ (by omega), sw_pf_row _ _ _ (by decide), sw_u_ne _ _ (by omega), sw_u_ne _ _ (by omega), fr 26 13 (by decide) (by decide) (by decide) (by decide), sw_u_same]
      have r10 : σ2 10 = τ 10 := funext fun j => (t2 10 j (by decide) (by decide) (by decide) (by decide) (by decide) (by omega)).trans (by rw [← h3]; rfl)
      have r34 : ∀ j : Nat, j < n → σ2 34 j = τ 10 j := fun j hj => by
        rw [ee j hj, ← m3, sw_u_row _ _ (by decide)]
        exact sw_pf_in _ 34 _ hj
      have r3 : σ2 3 = τ 3 := funext fun j => (t2 3 j (by decide) (by decide) (by decide) (by decide) (by decide) (by omega)).trans (by rw [← h3]; rfl)
      have r4 : σ2 4 = τ 4 := funext fun j => (t2 4 j (by decide) (by decide) (by decide) (by decide) (by decide) (by omega)).trans (by rw [← h3]; rfl)
      have q1 : τ 1 = σ 1 := funext fun j => fk 1 j (by decide) (by decide) (fun z => absurd z (by decide))
      have q2 : τ 2 = σ 2 := funext fun j => fk 2 j (by decide) (by decide) (fun z => absurd z (by decide))
      have r1 := rc 1 (by decide) (by decide) (by decide) (by decide) (by decide)
      have r2 := rc 2 (by decide) (by decide) (by decide) (by decide) (by decide)
      have fn2 : sw_fn σ2 := sw_fn_row (r1.trans q1.symm) (r2.trans q2.symm) r3 r4 fnt
      have h59' : 0 ≤ σ2 5 9 ∧ σ2 5 9 ≤ 2 := by rw [v9]; split <;> omega
      have hro' : sw_ro σ2 := fun z => by
        have hn0 : 0 < n := by
          rw [v9] at z
          split at z <;> omega
        rw [v5, v6, r10, r1, c5 7 (by decide)]
        exact ⟨by omega, fun j hj => hv j (by omega) (by omega), σ 5 7, rfl, fun j hj => (hrk j (by omega)).1⟩
      refine ⟨_, h2, m2, sw_J_mono (N := N) (by omega) ⟨⟨⟨gs2, by rw [r1]; exact hD, by rw [r1]; exact hV, by rw [r1, r2]; exact hL, by rw [r1, c5 7 (by decide)]; exact hpl, by rw [c5 8 (by decide)]; exact hspd, by rw [c5 12 (by decide)]; exact hbr, by rw [rc 9 (by decide) (by decide) (by decide) (by decide) (by decide)]; exact her, by rw [c5 11 (by decide)]; exact hmg, by rw [rc 6 (by decide) (by decide) (by decide) (by decide) (by decide)]; exact h61, by rw [c5 14 (by decide)]; exact h514, by rw [c5 13 (by decide)]; exact h513, h59', hro'⟩, gs2, ⟨by rw [m26 0 (by decide), r1]; exact e0, by rw [m26 1 (by decide), r1]; exact e1, by rw [m26 10 (by decide), c5 7 (by decide)]; exact e10, by rw [m26 11 (by decide), c5 8 (by decide)]; exact e11, by rw [w12, v9], by rw [m26 16 (by decide), c5 11 (by decide)]; exact e16, by rw [m26 17 (by decide), c5 12 (by decide)]; exact e17, by rw [m26 18 (by decide), rc 6 (by decide) (by decide) (by decide) (by decide) (by decide)]; exact e18, by rw [m26 19 (by decide), c5 13 (by decide)]; exact e19, by rw [m26 20 (by decide), c5 14 (by decide)]; exact e20, by rw [rm 32 (by decide) (by decide) (by decide) (by decide) (by decide) (by decide) (by decide), rc 8 (by decide) (by decide) (by decide) (by decide) (by decide)]; exact e32, by rw [rm 33 (by decide) (by decide) (by decide) (by decide) (by decide) (by decide) (by decide), rc 9 (by decide) (by decide) (by decide) (by decide) (by decide)]; exact e33, by rw [rm 39 (by decide) (by decide) (by decide) (by decide) (by decide) (by decide) (by decide), rc 7 (by decide) (by decide) (by decide) (by decide) (by decide)]; exact e39, fun _ => ⟨by rw [w22, v5], by rw [w23, v6], fun j hj => by rw [v5] at hj; rw [r10]; exact r34 j (by omega)⟩⟩, ⟨by rw [m26 3 (by decide), r1]; exact e3, by rw [r1]; exact hz, by rw [r1, rm 27 (by decide) (by decide) (by decide) (by decide) (by decide) (by decide) (by decide), rm 28 (by decide) (by decide) (by decide) (by decide) (by decide) (by decide) (by decide), rm 29 (by decide) (by decide) (by decide) (by decide) (by decide) (by decide) (by decide)]; exact hzz, fun j hj => ?_⟩⟩, ⟨by rw [r1]; exact hA, by rw [m26 2 (by decide), r1]; exact e2, fn2, ⟨by rw [m26 7 (by decide), rc 0 (by decide) (by decide) (by decide) (by decide) (by decide)]; exact e7, by rw [rc 0 (by decide) (by decide) (by decide) (by decide) (by decide)]; exact hst, by rw [rc 0 (by decide) (by decide) (by decide) (by decide) (by decide), r1, rc 23 (by decide) (by decide) (by decide) (by decide) (by decide), rc 24 (by decide) (by decide) (by decide) (by decide) (by decide), rm 30 (by decide) (by decide) (by decide) (by decide) (by decide) (by decide) (by decide), rm 31 (by decide) (by decide) (by decide) (by decide) (by decide) (by decide) (by decide)]; exact hsp⟩, by rw [w13, v10]⟩, ?_, ?_, ?_⟩⟩
      · rw [r1] at hj
        rw [r2, ← hlm j hj]
        unfold sw_lm
        rw [m26 0 (by decide), m26 1 (by decide), m26 3 (by decide), rm 27 (by decide) (by decide) (by decide) (by decide) (by decide) (by decide) (by decide), rm 28 (by decide) (by decide) (by decide) (by decide) (by decide) (by decide) (by decide), rm 29 (by decide) (by decide) (by decide) (by decide) (by decide) (by decide) (by decide)]
      · unfold sw_jl
        rw [m26 29 (by decide), m26 30 (by decide), m26 31 (by decide), m26 32 (by decide), rc 11 (by decide) (by decide) (by decide) (by decide) (by decide)]
        exact l0
      · unfold sw_jb
        rw [rm 40 (by decide) (by decide) (by decide) (by decide) (by decide) (by decide) (by decide), rc 13 (by decide) (by decide) (by decide) (by decide) (by decide)]
        exact b0
      · unfold sw_js sw_jt
        rw [m26 39 (by decide), rc 0 (by decide) (by decide) (by decide) (by decide) (by decide), rm 41 (by decide) (by decide) (by decide) (by decide) (by decide) (by decide) (by decide), rm 42 (by decide) (by decide) (by decide) (by decide) (by decide) (by decide) (by decide), rm 43 (by decide) (by decide) (by decide) (by decide) (by decide) (by decide) (by decide), rm 44 (by decide) (by decide) (by decide) (by decide) (by decide) (by decide) (by decide), rc 15 (by decide) (by decide) (by decide) (by decide) (by decide), rc 16 (by decide) (by decide) (by decide) (by decide) (by decide), rc 17 (by decide) (by decide) (by decide) (by decide) (by decide), rc 18 (by decide) (by decide) (by decide) (by decide) (by decide), rc 19 (by decide) (by decide) (by decide) (by decide) (by decide), rc 20 (by decide) (by decide) (by decide) (by decide) (by decide), rc 21 (by decide) (by decide) (by decide) (by decide) (by decide), rc 22 (by decide) (by decide) (by decide) (by decide) (by decide)]
        exact s0
