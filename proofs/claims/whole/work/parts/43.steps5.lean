theorem sw_lw_pl {lim : Nat → Int} {D V A p : Int} {f : Nat → Int} (hp : 0 ≤ p ∧ p ≤ D) : ∀ n, (∀ j, j < n → sw_lw lim D V A f p j) → 0 ≤ sw_pl f p n ∧ sw_pl f p n ≤ D
  | 0, _ => hp
  | n + 1, h => by
    have := (h n (by omega)).2
    rw [sw_pl]
    exact ⟨this.2.1, this.2.2.1⟩
theorem sw_lw_cong {lim lim' : Nat → Int} {D V A p : Int} {f g : Nat → Int} {j : Nat} (hl : ∀ j : Nat, (j : Int) ≤ D → lim j = lim' j) (h : ∀ i, i ≤ j → f i = g i) (hp : 0 ≤ sw_pl f p j ∧ sw_pl f p j ≤ D) : sw_lw lim D V A f p j ↔ sw_lw lim' D V A g p j := by
  unfold sw_lw
  rw [sw_tk_lc hl hp, sw_pl_cong p j (fun i hi => h i (by omega)), sw_pv_cong j (fun i hi => h i (by omega)), h j (Nat.le_refl j)]
theorem sw_lw_one {lim lim' : Nat → Int} {D V A p z : Int} {f g : Nat → Int} {m n : Nat} (hp : 0 ≤ p ∧ p ≤ D) (hl : ∀ j : Nat, (j : Int) ≤ D → lim j = lim' j) (h : ∀ i : Nat, (i : Int) < z → f i = g i) (m1 : (m : Int) ≤ z) (m2 : ∀ j, j < m → sw_lw lim D V A f p j) (m3 : (m : Int) < z → ¬ sw_lw lim D V A f p m) (n1 : (n : Int) ≤ z) (n2 : ∀ j, j < n → sw_lw lim' D V A g p j) (n3 : (n : Int) < z → ¬ sw_lw lim' D V A g p n) : m = n := by
  rcases Nat.lt_trichotomy m n with y | y | y
  · exact absurd ((sw_lw_cong hl (fun i hi => h i (by omega)) (sw_lw_pl hp m m2)).mpr (n2 m y)) (m3 (by omega))
  · exact y
  · exact absurd ((sw_lw_cong (fun j hj => (hl j hj).symm) (fun i hi => (h i (by omega)).symm) (sw_lw_pl hp n n2)).mpr (m2 n y)) (n3 (by omega))
theorem st_plan0 (N : Int) (hN : 0 ≤ N ∧ N ≤ 900000) (σ : sw_S) (J : sw_J N σ σ) (q : Int) (gq : sw_g q) : sw_St M_X7_plan M_X8_plan [.inl 0, .inl q] N σ := by
  obtain ⟨⟨c, g0, w0, z0⟩, r0, l0, b0, s0⟩ := id J
  obtain ⟨hσ, hD, hV, hL, hpl, hspd, hbr, her, hmg, h61, h514, h513, h59, hro⟩ := id c
  obtain ⟨e0, e1, e10, e11, e12, e16, e17, e18, e19, e20, e32, e33, e39, er⟩ := id w0
  obtain ⟨e3, hz, hzz, hlm⟩ := id z0
  obtain ⟨hA, e2, hf, ⟨e7, hst, hsp⟩, e13⟩ := id r0
  obtain ⟨⟨el0, hl0⟩, ⟨el1, hl1⟩, ⟨ewt, hwt⟩, ⟨ekp, hkp⟩⟩ := id l0
  obtain ⟨efi, hsh⟩ := id s0
  obtain ⟨t0, t1, t2, t3⟩ := id hsh
  obtain ⟨x1, x2, x3, x4, x5, x6⟩ := id t0
  have ts : (0 : Int).toNat = 0 := rfl
  have hz4 : ∀ j : Nat, j < 4 → 0 ≤ σ 43 j ∧ σ 43 j ≤ 60 := fun j hj => by
    rcases (by omega : j = 0 ∨ j = 1 ∨ j = 2 ∨ j = 3) with rfl | rfl | rfl | rfl
    · rw [t0.2.2.2.1]; exact t0.2.2.2.2.1
    · rw [t1.2.2.2.1]; exact t1.2.2.2.2.1
    · rw [t2.2.2.2.1]; exact t2.2.2.2.2.1
    · rw [t3.2.2.2.1]; exact t3.2.2.2.2.1
  refine ⟨_, cc_plan0 σ hσ hD hV hA hL hf hpl x5.1 x5.2 x3 q gq, fun r1 σ1 q1 => ?_⟩
  rcases q1 with ⟨h1, h2, h3⟩ | ⟨h1, h2, h3⟩ | ⟨h1, h2, h3⟩ | ⟨h1, n, τ, fk, gt, fnt, hr, h2, h3⟩
  · have gs1 : sw_gs σ1 := by rw [← h3]; exact hσ
    have km : ∀ i, 26 ≤ i → σ1 i = σ i := fun i _ => by rw [← h3]
    have k26 := km 26 (by decide)
    have elm : ∀ j, sw_lm σ1 j = sw_lm σ j := sw_lm_row k26 (km 27 (by decide)) (km 28 (by decide)) (km 29 (by decide))
    refine ⟨_, mm_plan σ1 gs1 (by rw [k26]; omega) (by rw [k26]; omega) (by rw [k26]; omega) (by rw [k26]; omega) (σ 2) (fun j hj => by rw [elm]; rw [k26] at hj; exact (hlm j (by omega)).symm) (fun x x1 x2 => by rw [k26] at x2; exact (hL x x1 (by omega)).1) (by rw [k26]; omega) 0 (by decide) (by rw [km 43 (by decide)]; exact hz4) q gq, fun r2 σ2 q2 => ?_⟩
    rw [ts, k26, km 41 (by decide), km 42 (by decide), km 43 (by decide), e0, e1, e2, e10, e12, x2, x4] at q2
    rcases q2 with ⟨m1, m2, m3⟩ | ⟨m1, m2, m3⟩ | ⟨m1, m2, m3⟩ | ⟨m1, m2⟩
    · subst h3; subst m3; exact ⟨_, h2, m2, sw_J_mono (N := N) (by omega) J⟩
    · exfalso; omega
    · exfalso; omega
    · exfalso; omega
  · have gs1 : sw_gs σ1 := by rw [← h3]; exact hσ
    have km : ∀ i, 26 ≤ i → σ1 i = σ i := fun i _ => by rw [← h3]
    have k26 := km 26 (by decide)
    have elm : ∀ j, sw_lm σ1 j = sw_lm σ j := sw_lm_row k26 (km 27 (by decide)) (km 28 (by decide)) (km 29 (by decide))
    refine ⟨_, mm_plan σ1 gs1 (by rw [k26]; omega) (by rw [k26]; omega) (by rw [k26]; omega) (by rw [k26]; omega) (σ 2) (fun j hj => by rw [elm]; rw [k26] at hj; exact (hlm j (by omega)).symm) (fun x x1 x2 => by rw [k26] at x2; exact (hL x x1 (by omega)).1) (by rw [k26]; omega) 0 (by decide) (by rw [km 43 (by decide)]; exact hz4) q gq, fun r2 σ2 q2 => ?_⟩
    rw [ts, k26, km 41 (by decide), km 42 (by decide), km 43 (by decide), e0, e1, e2, e10, e12, x2, x4] at q2
    rcases q2 with ⟨m1, m2, m3⟩ | ⟨m1, m2, m3⟩ | ⟨m1, m2, m3⟩ | ⟨m1, m2⟩
    · exfalso; omega
    · subst h3; subst m3; exact ⟨_, h2, m2, sw_J_mono (N := N) (by omega) J⟩
    · exfalso; omega
    · exfalso; omega
  · have gs1 : sw_gs σ1 := by rw [← h3]; exact sw_gs_u hσ 0 9 (by decide)
    have km : ∀ i, 26 ≤ i → σ1 i = σ i := fun i hi => by rw [← h3]; funext j; exact sw_u_row _ _ (by omega)
    have k26 := km 26 (by decide)
    have elm : ∀ j, sw_lm σ1 j = sw_lm σ j := sw_lm_row k26 (km 27 (by decide)) (km 28 (by decide)) (km 29 (by decide))
    refine ⟨_, mm_plan σ1 gs1 (by rw [k26]; omega) (by rw [k26]; omega) (by rw [k26]; omega) (by rw [k26]; omega) (σ 2) (fun j hj => by rw [elm]; rw [k26] at hj; exact (hlm j (by omega)).symm) (fun x x1 x2 => by rw [k26] at x2; exact (hL x x1 (by omega)).1) (by rw [k26]; omega) 0 (by decide) (by rw [km 43 (by decide)]; exact hz4) q gq, fun r2 σ2 q2 => ?_⟩
    rw [ts, k26, km 41 (by decide), km 42 (by decide), km 43 (by decide), e0, e1, e2, e10, e12, x2, x4] at q2
    rcases q2 with ⟨m1, m2, m3⟩ | ⟨m1, m2, m3⟩ | ⟨m1, m2, m3⟩ | ⟨m1, m2⟩
    · exfalso; omega
    · exfalso; omega
    · subst h3; subst m3; exact ⟨_, h2, m2, sw_J_mono (N := N) (by omega) ⟨⟨⟨(sw_gs_u (sw_gs_u hσ 0 9 (by decide)) 26 39 (by decide)), hD, hV, hL, hpl, hspd, hbr, her, hmg, h61, h514, h513, h59, hro⟩, (sw_gs_u (sw_gs_u hσ 0 9 (by decide)) 26 39 (by decide)), ⟨e0, e1, e10, e11, e12, e16, e17, e18, e19, e20, e32, e33, e39, er⟩, ⟨e3, hz, hzz, hlm⟩⟩, ⟨hA, e2, hf, ⟨e7, hst, hsp⟩, e13⟩, ⟨⟨el0, hl0⟩, ⟨el1, hl1⟩, ⟨ewt, hwt⟩, ⟨ekp, hkp⟩⟩, b0, ⟨rfl, hsh⟩⟩⟩
    · exfalso; omega
  · have gs1 : sw_gs σ1 := by rw [← h3]; exact sw_pf_gs gt 16 _ (fun j _ => sw_cv_g (gt 25 j))
    have km : ∀ i, 26 ≤ i → σ1 i = σ i := fun i hi => by rw [← h3]; funext j; rw [sw_pf_row _ _ _ (by omega)]; exact congrFun (sw_fkc_m (by decide) fk i hi) j
    have k26 := km 26 (by decide)
    have elm : ∀ j, sw_lm σ1 j = sw_lm σ j := sw_lm_row k26 (km 27 (by decide)) (km 28 (by decide)) (km 29 (by decide))
    refine ⟨_, mm_plan σ1 gs1 (by rw [k26]; omega) (by rw [k26]; omega) (by rw [k26]; omega) (by rw [k26]; omega) (σ 2) (fun j hj => by rw [elm]; rw [k26] at hj; exact (hlm j (by omega)).symm) (fun x x1 x2 => by rw [k26] at x2; exact (hL x x1 (by omega)).1) (by rw [k26]; omega) 0 (by decide) (by rw [km 43 (by decide)]; exact hz4) q gq, fun r2 σ2 q2 => ?_⟩
    rw [ts, k26, km 41 (by decide), km 42 (by decide), km 43 (by decide), e0, e1, e2, e10, e12, x2, x4] at q2
    rcases q2 with ⟨m1, m2, m3⟩ | ⟨m1, m2, m3⟩ | ⟨m1, m2, m3⟩ | ⟨m1, m, τ2, fr, gt2, mr, m2, m3⟩
    · exfalso; omega
    · exfalso; omega
    · exfalso; omega
    · obtain ⟨e, ee⟩ := sw_isr_one hr mr
      subst e
      have hK : 0 ≤ (min (n : Int) (σ 15 3)) ∧ (min (n : Int) (σ 15 3)) ≤ 60 ∧ (min (n : Int) (σ 15 3)) ≤ n := by omega
      generalize (min (n : Int) (σ 15 3)) = K at h2 h3 m2 m3 hK
      have gs2 : sw_gs σ2 := by rw [← m3]; exact sw_pg_gs gt2 44 _ _ (fun j _ => sw_cv_g (gt2 38 j))
      have f2 : ∀ i j, i ≠ 44 → i ≠ 35 → i ≠ 36 → i ≠ 37 → i ≠ 38 → σ2 i j = σ1 i j := fun i j h0 h4 h5 h6 h7 => by rw [← m3, sw_pg_row _ _ _ _ h0]; exact fr i j h4 h5 h6 h7
      have f1 : ∀ i j, i ≠ 16 → σ1 i j = τ i j := fun i j h0 => by rw [← h3]; exact sw_pf_row _ _ _ h0 j
      have f44 : τ2 44 = σ 44 := funext fun j => (fr 44 j (by decide) (by decide) (by decide) (by decide)).trans (congrFun (km 44 (by decide)) j)
      have fc : τ 16 = σ 16 := funext fun j => fk 16 j (by decide) (by decide) (fun z => absurd z (by decide))
      have rr : ∀ i, i < 26 → i ≠ 16 → (sw_rp (sw_rp σ2 16 (σ 16)) 44 (σ 44)) i = τ i := fun i h0 h4 => funext fun j => by
        unfold sw_rp
        rw [if_neg (by omega), if_neg h4, f2 i j (by omega) (by omega) (by omega) (by omega) (by omega)]
        exact f1 i j h4
      have gm : sw_gs (sw_rp (sw_rp σ2 16 (σ 16)) 44 (σ 44)) := fun i j => by
        unfold sw_rp
        split
        · exact hσ 44 j
        · split
          · exact hσ 16 j
          · exact gs2 i j
      have Jm : sw_J N (sw_rp (sw_rp σ2 16 (σ 16)) 44 (σ 44)) (sw_rp (sw_rp σ2 16 (σ 16)) 44 (σ 44)) := by
        refine sw_J_cong J gm gm (sw_fn_row (rr 1 (by decide) (by decide)) (rr 2 (by decide) (by decide)) (rr 3 (by decide) (by decide)) (rr 4 (by decide) (by decide)) fnt) (fun i j y1 y2 y3 y4 => ?_) (fun i j y1 y2 y3 y4 y5 y6 => ?_)
        · by_cases zz : i = 16
          · subst zz; rfl
          · rw [rr i y1 zz]; exact fk i j y3 y4 (fun z => absurd z y2)
        · by_cases zz : i = 44
          · subst zz; rfl
          · unfold sw_rp
            rw [if_neg zz, if_neg (by omega), f2 i j zz y2 y3 y4 y5]
            exact congrFun (km i y1) j
      have hm : ∀ q, σ2 44 q = (if 60 * 0 ≤ q ∧ q < 60 * 0 + K.toNat then sw_cv (σ 15 2) (τ2 38 (q - 60 * 0)) else σ 44 q) := fun q => by
        rw [← m3, ← f44]
        show (if 44 = 44 ∧ (60 * 0 ≤ q ∧ q < 60 * 0 + K.toNat) then sw_cv (σ 15 2) (τ2 38 (q - 60 * 0)) else τ2 44 q) = _
        by_cases zz : 60 * 0 ≤ q ∧ q < 60 * 0 + K.toNat
        · rw [if_pos ⟨rfl, zz⟩, if_pos zz]
        · rw [if_neg (fun y => zz y.2), if_neg zz]
      have hc : ∀ q, σ2 16 q = (if q < K.toNat then sw_cv (σ 15 2) (τ 25 q) else σ 16 q) := fun q => by
        rw [f2 16 q (by decide) (by decide) (by decide) (by decide) (by decide), ← h3, ← fc]
        show (if 16 = 16 ∧ q < K.toNat then sw_cv (σ 15 2) (τ 25 q) else τ 16 q) = _
        by_cases zz : q < K.toNat
        · rw [if_pos ⟨rfl, zz⟩, if_pos zz]
        · rw [if_neg (fun y => zz y.2), if_neg zz]
      refine ⟨_, h2, m2, sw_J_mono (N := N) (by omega) (sw_J_it0 Jm gs2 (fun i j y1 y2 => ?_) (fun j hj => ?_) (fun y hy => ?_))⟩
      · unfold sw_rp
        rw [if_neg y2, if_neg y1]
      · rw [hc, hm]
        by_cases zz : j < K.toNat
        · rw [if_pos zz, if_pos (by omega), show 60 * 0 + j - 60 * 0 = j by omega, ee j (by omega)]
        · rw [if_neg zz, if_neg (by omega)]; exact x6 j hj
      · rw [hm, if_neg (by omega)]
        rfl
theorem st_check0 (N : Int) (hN : 0 ≤ N ∧ N ≤ 900000) (σ : sw_S) (J : sw_J N σ σ)  : sw_St M_X7_check M_X8_check [.inl 0] N σ := by
  obtain ⟨⟨c, g0, w0, z0⟩, r0, l0, b0, s0⟩ := id J
  obtain ⟨hσ, hD, hV, hL, hpl, hspd, hbr, her, hmg, h61, h514, h513, h59, hro⟩ := id c
  obtain ⟨e0, e1, e10, e11, e12, e16, e17, e18, e19, e20, e32, e33, e39, er⟩ := id w0
  obtain ⟨e3, hz, hzz, hlm⟩ := id z0
  obtain ⟨hA, e2, hf, ⟨e7, hst, hsp⟩, e13⟩ := id r0
  obtain ⟨⟨el0, hl0⟩, ⟨el1, hl1⟩, ⟨ewt, hwt⟩, ⟨ekp, hkp⟩⟩ := id l0
  obtain ⟨efi, hsh⟩ := id s0
  obtain ⟨t0, t1, t2, t3⟩ := id hsh
  obtain ⟨x1, x2, x3, x4, x5, x6⟩ := id t0
  have ts : (0 : Int).toNat = 0 := rfl
  have hz4 : ∀ j : Nat, j < 4 → 0 ≤ σ 43 j ∧ σ 43 j ≤ 60 := fun j hj => by
    rcases (by omega : j = 0 ∨ j = 1 ∨ j = 2 ∨ j = 3) with rfl | rfl | rfl | rfl
    · rw [t0.2.2.2.1]; exact t0.2.2.2.2.1
    · rw [t1.2.2.2.1]; exact t1.2.2.2.2.1
    · rw [t2.2.2.2.1]; exact t2.2.2.2.2.1
    · rw [t3.2.2.2.1]; exact t3.2.2.2.2.1
  refine ⟨_, cc_check0 σ hσ hD hV hA hL x5.1 x5.2 hpl, fun r1 σ1 q1 => ?_⟩
  rcases q1 with ⟨h1, h2, h3⟩ | ⟨h1, h2, h3⟩ | ⟨h1, h3, m, m1, m2, m3, h2⟩
  · subst h3
    refine ⟨_, mm_check σ hσ (by omega) (by omega) (by omega) (by omega) (by omega) 0 (by decide) hz4, fun r2 σ2 q2 => ?_⟩
    rw [ts, e12] at q2
    rcases q2 with ⟨n1, n2, n3⟩ | ⟨n1, n2, n3⟩ | ⟨n1, n2, n3⟩ | ⟨n1, n2⟩
    · exfalso; omega
    · subst n3; exact ⟨_, h2, n2, sw_J_mono (N := N) (by omega) J⟩
    · exfalso; omega
    · exfalso; omega
  · have gs1 : sw_gs σ1 := by rw [← h3]; exact sw_gs_u hσ 0 9 (by decide)
    have k26 : σ1 26 = σ 26 := by subst h3; rfl
    have k41 : σ1 41 = σ 41 := by subst h3; rfl
    have k43 : σ1 43 = σ 43 := by subst h3; rfl
    refine ⟨_, mm_check σ1 gs1 (by rw [k26]; omega) (by rw [k26]; omega) (by rw [k26]; omega) (by rw [k26]; omega) (by rw [k26]; omega) 0 (by decide) (by rw [k43]; exact hz4), fun r2 σ2 q2 => ?_⟩
    rw [ts, k26, k41, e12] at q2
    rcases q2 with ⟨n1, n2, n3⟩ | ⟨n1, n2, n3⟩ | ⟨n1, n2, n3⟩ | ⟨n1, n2⟩
    · exfalso; omega
    · exfalso; omega
    · subst h3; subst n3; exact ⟨_, h2, n2, sw_J_mono (N := N) (by omega) ⟨⟨⟨(sw_gs_u (sw_gs_u hσ 0 9 (by decide)) 26 39 (by decide)), hD, hV, hL, hpl, hspd, hbr, her, hmg, h61, h514, h513, h59, hro⟩, (sw_gs_u (sw_gs_u hσ 0 9 (by decide)) 26 39 (by decide)), ⟨e0, e1, e10, e11, e12, e16, e17, e18, e19, e20, e32, e33, e39, er⟩, ⟨e3, hz, hzz, hlm⟩⟩, ⟨hA, e2, hf, ⟨e7, hst, hsp⟩, e13⟩, ⟨⟨el0, hl0⟩, ⟨el1, hl1⟩, ⟨ewt, hwt⟩, ⟨ekp, hkp⟩⟩, b0, ⟨rfl, hsh⟩⟩⟩
    · exfalso; omega
  · subst h3
    refine ⟨_, mm_check σ hσ (by omega) (by omega) (by omega) (by omega) (by omega) 0 (by decide) hz4, fun r2 σ2 q2 => ?_⟩
    rw [ts, e12, x4, e0, e1, e2, e10] at q2
    rcases q2 with ⟨n1, n2, n3⟩ | ⟨n1, n2, n3⟩ | ⟨n1, n2, n3⟩ | ⟨n1, n0, n, n2, n3, n4, n5⟩
    · exfalso; omega
    · exfalso; omega
    · exfalso; omega
    · have el : ∀ j : Nat, (j : Int) ≤ σ 1 0 → σ 2 j = σ2 35 j := fun j hj => by
        rw [← n0, ← hlm j hj]
        exact (sw_pf_in σ 35 (sw_lm σ) (by omega)).symm
      have ef : ∀ i : Nat, (i : Int) < σ 15 3 → σ 16 i = (fun j : Nat => σ 44 (60 * (0 : Int) + (j : Int)).toNat) i := fun i hi => by
        show σ 16 i = σ 44 (60 * (0 : Int) + (i : Int)).toNat
        rw [show (60 * (0 : Int) + (i : Int)).toNat = 60 * 0 + i by omega, x6 i (by omega)]
      have e := sw_lw_one hpl el ef m1 m2 m3 n2 n3 n4
      subst e
      have ev : (if (m : Int) = σ 15 3 ∧ (-σ 1 2 ≤ sw_pv (fun j : Nat => σ 44 (60 * (0 : Int) + (j : Int)).toNat) m ∧ sw_pv (fun j : Nat => σ 44 (60 * (0 : Int) + (j : Int)).toNat) m ≤ σ 1 2) then (m : Int) + 1000 else (m : Int)) = (if (m : Int) = σ 15 3 ∧ sw_abs (if σ 15 3 = 0 then 0 else σ 16 (σ 15 3 - 1).toNat) ≤ σ 1 2 then (m : Int) + 1000 else (m : Int)) := by
        by_cases zz : (m : Int) = σ 15 3
        · have ep : sw_pv (fun j : Nat => σ 44 (60 * (0 : Int) + (j : Int)).toNat) m = (if σ 15 3 = 0 then 0 else σ 16 (σ 15 3 - 1).toNat) := by
            by_cases z0 : σ 15 3 = 0
            · rw [if_pos z0, show m = 0 by omega]
              rfl
            · rw [if_neg z0, show m = (σ 15 3 - 1).toNat + 1 by omega, sw_pv]
              exact (ef (σ 15 3 - 1).toNat (by omega)).symm
          rw [ep]
          generalize (if σ 15 3 = 0 then 0 else σ 16 (σ 15 3 - 1).toNat) = L
          have ea : (-σ 1 2 ≤ L ∧ L ≤ σ 1 2) ↔ sw_abs L ≤ σ 1 2 := by
            unfold sw_abs
            split <;> omega
          by_cases y : sw_abs L ≤ σ 1 2
          · rw [if_pos ⟨zz, ea.mpr y⟩, if_pos ⟨zz, y⟩]
          · rw [if_neg (fun q => y (ea.mp q.2)), if_neg (fun q => y q.2)]
        · rw [if_neg (fun q => zz q.1), if_neg (fun q => zz q.1)]
      refine ⟨_, h2, n5.trans (congrArg (fun z : Int => some (Sum.inl z)) ev), sw_J_mono (N := N) (by omega) ?_⟩
      have g2 : sw_gs σ2 := by rw [← n0]; exact sw_pf_gs hσ 35 _ (fun j _ => sw_lm_g hσ j)
      have fr : ∀ i j, i ≠ 35 → σ2 i j = σ i j := fun i j hi => by rw [← n0]; exact sw_pf_row σ _ _ hi j
      refine sw_J_cong J g2 g2 ?_ (fun i j h _ _ _ => fr i j (by omega)) (fun i j _ h _ _ _ _ => fr i j h)
      subst n0
      exact hf
theorem st_plan1 (N : Int) (hN : 0 ≤ N ∧ N ≤ 900000) (σ : sw_S) (J : sw_J N σ σ) (q : Int) (gq : sw_g q) : sw_St M_X7_plan M_X8_plan [.inl 1, .inl q] N σ := by
  obtain ⟨⟨c, g0, w0, z0⟩, r0, l0, b0, s0⟩ := id J
  obtain ⟨hσ, hD, hV, hL, hpl, hspd, hbr, her, hmg, h61, h514, h513, h59, hro⟩ := id c
  obtain ⟨e0, e1, e10, e11, e12, e16, e17, e18, e19, e20, e32, e33, e39, er⟩ := id w0
  obtain ⟨e3, hz, hzz, hlm⟩ := id z0
  obtain ⟨hA, e2, hf, ⟨e7, hst, hsp⟩, e13⟩ := id r0
  obtain ⟨⟨el0, hl0⟩, ⟨el1, hl1⟩, ⟨ewt, hwt⟩, ⟨ekp, hkp⟩⟩ := id l0
  obtain ⟨efi, hsh⟩ := id s0
  obtain ⟨t0, t1, t2, t3⟩ := id hsh
  obtain ⟨x1, x2, x3, x4, x5, x6⟩ := id t1
  have ts : (1 : Int).toNat = 1 := rfl
  have hz4 : ∀ j : Nat, j < 4 → 0 ≤ σ 43 j ∧ σ 43 j ≤ 60 := fun j hj => by
    rcases (by omega : j = 0 ∨ j = 1 ∨ j = 2 ∨ j = 3) with rfl | rfl | rfl | rfl
    · rw [t0.2.2.2.1]; exact t0.2.2.2.2.1
    · rw [t1.2.2.2.1]; exact t1.2.2.2.2.1
    · rw [t2.2.2.2.1]; exact t2.2.2.2.2.1
    · rw [t3.2.2.2.1]; exact t3.2.2.2.2.1
  refine ⟨_, cc_plan1 σ hσ hD hV hA hL hf hpl x5.1 x5.2 x3 q gq, fun r1 σ1 q1 => ?_⟩
  rcases q1 with ⟨h1, h2, h3⟩ | ⟨h1, h2, h3⟩ | ⟨h1, h2, h3⟩ | ⟨h1, n, τ, fk, gt, fnt, hr, h2, h3⟩
  · have gs1 : sw_gs σ1 := by rw [← h3]; exact hσ
    have km : ∀ i, 26 ≤ i → σ1 i = σ i := fun i _ => by rw [← h3]
    have k26 := km 26 (by decide)
    have elm : ∀ j, sw_lm σ1 j = sw_lm σ j := sw_lm_row k26 (km 27 (by decide)) (km 28 (by decide)) (km 29 (by decide))
    refine ⟨_, mm_plan σ1 gs1 (by rw [k26]; omega) (by rw [k26]; omega) (by rw [k26]; omega) (by rw [k26]; omega) (σ 2) (fun j hj => by rw [elm]; rw [k26] at hj; exact (hlm j (by omega)).symm) (fun x x1 x2 => by rw [k26] at x2; exact (hL x x1 (by omega)).1) (by rw [k26]; omega) 1 (by decide) (by rw [km 43 (by decide)]; exact hz4) q gq, fun r2 σ2 q2 => ?_⟩
    rw [ts, k26, km 41 (by decide), km 42 (by decide), km 43 (by decide), e0, e1, e2, e10, e12, x2, x4] at q2
    rcases q2 with ⟨m1, m2, m3⟩ | ⟨m1, m2, m3⟩ | ⟨m1, m2, m3⟩ | ⟨m1, m2⟩
    · subst h3; subst m3; exact ⟨_, h2, m2, sw_J_mono (N := N) (by omega) J⟩
    · exfalso; omega
    · exfalso; omega
    · exfalso; omega
  · have gs1 : sw_gs σ1 := by rw [← h3]; exact hσ
    have km : ∀ i, 26 ≤ i → σ1 i = σ i := fun i _ => by rw [← h3]
    have k26 := km 26 (by decide)
    have elm : ∀ j, sw_lm σ1 j = sw_lm σ j := sw_lm_row k26 (km 27 (by decide)) (km 28 (by decide)) (km 29 (by decide))
    refine ⟨_, mm_plan σ1 gs1 (by rw [k26]; omega) (by rw [k26]; omega) (by rw [k26]; omega) (by rw [k26]; omega) (σ 2) (fun j hj => by rw [elm]; rw [k26] at hj; exact (hlm j (by omega)).symm) (fun x x1 x2 => by rw [k26] at x2; exact (hL x x1 (by omega)).1) (by rw [k26]; omega) 1 (by decide) (by rw [km 43 (by decide)]; exact hz4) q gq, fun r2 σ2 q2 => ?_⟩
    rw [ts, k26, km 41 (by decide), km 42 (by decide), km 43 (by decide), e0, e1, e2, e10, e12, x2, x4] at q2
    rcases q2 with ⟨m1, m2, m3⟩ | ⟨m1, m2, m3⟩ | ⟨m1, m2, m3⟩ | ⟨m1, m2⟩
    · exfalso; omega
    · subst h3; subst m3; exact ⟨_, h2, m2, sw_J_mono (N := N) (by omega) J⟩
    · exfalso; omega
    · exfalso; omega
  · have gs1 : sw_gs σ1 := by rw [← h3]; exact sw_gs_u hσ 0 9 (by decide)
    have km : ∀ i, 26 ≤ i → σ1 i = σ i := fun i hi => by rw [← h3]; funext j; exact sw_u_row _ _ (by omega)
    have k26 := km 26 (by decide)
    have elm : ∀ j, sw_lm σ1 j = sw_lm σ j := sw_lm_row k26 (km 27 (by decide)) (km 28 (by decide)) (km 29 (by decide))
    refine ⟨_, mm_plan σ1 gs1 (by rw [k26]; omega) (by rw [k26]; omega) (by rw [k26]; omega) (by rw [k26]; omega) (σ 2) (fun j hj => by rw [elm]; rw [k26] at hj; exact (hlm j (by omega)).symm) (fun x x1 x2 => by rw [k26] at x2; exact (hL x x1 (by omega)).1) (by rw [k26]; omega) 1 (by decide) (by rw [km 43 (by decide)]; exact hz4) q gq, fun r2 σ2 q2 => ?_⟩
    rw [ts, k26, km 41 (by decide), km 42 (by decide), km 43 (by decide), e0, e1, e2, e10, e12, x2, x4] at q2
    rcases q2 with ⟨m1, m2, m3⟩ | ⟨m1, m2, m3⟩ | ⟨m1, m2, m3⟩ | ⟨m1, m2⟩
    · exfalso; omega
    · exfalso; omega
    · subst h3; subst m3; exact ⟨_, h2, m2, sw_J_mono (N := N) (by omega) ⟨⟨⟨(sw_gs_u (sw_gs_u hσ 0 9 (by decide)) 26 39 (by decide)), hD, hV, hL, hpl, hspd, hbr, her, hmg, h61, h514, h513, h59, hro⟩, (sw_gs_u (sw_gs_u hσ 0 9 (by decide)) 26 39 (by decide)), ⟨e0, e1, e10, e11, e12, e16, e17, e18, e19, e20, e32, e33, e39, er⟩, ⟨e3, hz, hzz, hlm⟩⟩, ⟨hA, e2, hf, ⟨e7, hst, hsp⟩, e13⟩, ⟨⟨el0, hl0⟩, ⟨el1, hl1⟩, ⟨ewt, hwt⟩, ⟨ekp, hkp⟩⟩, b0, ⟨rfl, hsh⟩⟩⟩
    · exfalso; omega
  · have gs1 : sw_gs σ1 := by rw [← h3]; exact sw_pf_gs gt 18 _ (fun j _ => sw_cv_g (gt 25 j))
    have km : ∀ i, 26 ≤ i → σ1 i = σ i := fun i hi => by rw [← h3]; funext j; rw [sw_pf_row _ _ _ (by omega)]; exact congrFun (sw_fkc_m (by decide) fk i hi) j
    have k26 := km 26 (by decide)
    have elm : ∀ j, sw_lm σ1 j = sw_lm σ j := sw_lm_row k26 (km 27 (by decide)) (km 28 (by decide)) (km 29 (by decide))
    refine ⟨_, mm_plan σ1 gs1 (by rw [k26]; omega) (by rw [k26]; omega) (by rw [k26]; omega) (by rw [k26]; omega) (σ 2) (fun j hj => by rw [elm]; rw [k26] at hj; exact (hlm j (by omega)).symm) (fun x x1 x2 => by rw [k26] at x2; exact (hL x x1 (by omega)).1) (by rw [k26]; omega) 1 (by decide) (by rw [km 43 (by decide)]; exact hz4) q gq, fun r2 σ2 q2 => ?_⟩
    rw [ts, k26, km 41 (by decide), km 42 (by decide), km 43 (by decide), e0, e1, e2, e10, e12, x2, x4] at q2
    rcases q2 with ⟨m1, m2, m3⟩ | ⟨m1, m2, m3⟩ | ⟨m1, m2, m3⟩ | ⟨m1, m, τ2, fr, gt2, mr, m2, m3⟩
    · exfalso; omega
    · exfalso; omega
    · exfalso; omega
    · obtain ⟨e, ee⟩ := sw_isr_one hr mr
      subst e
      have hK : 0 ≤ (min (n : Int) (σ 17 3)) ∧ (min (n : Int) (σ 17 3)) ≤ 60 ∧ (min (n : Int) (σ 17 3)) ≤ n := by omega
      generalize (min (n : Int) (σ 17 3)) = K at h2 h3 m2 m3 hK
      have gs2 : sw_gs σ2 := by rw [← m3]; exact sw_pg_gs gt2 44 _ _ (fun j _ => sw_cv_g (gt2 38 j))
      have f2 : ∀ i j, i ≠ 44 → i ≠ 35 → i ≠ 36 → i ≠ 37 → i ≠ 38 → σ2 i j = σ1 i j := fun i j h0 h4 h5 h6 h7 => by rw [← m3, sw_pg_row _ _ _ _ h0]; exact fr i j h4 h5 h6 h7
      have f1 : ∀ i j, i ≠ 18 → σ1 i j = τ i j := fun i j h0 => by rw [← h3]; exact sw_pf_row _ _ _ h0 j
      have f44 : τ2 44 = σ 44 := funext fun j => (fr 44 j (by decide) (by decide) (by decide) (by decide)).trans (congrFun (km 44 (by decide)) j)
      have fc : τ 18 = σ 18 := funext fun j => fk 18 j (by decide) (by decide) (fun z => absurd z (by decide))
      have rr : ∀ i, i < 26 → i ≠ 18 → (sw_rp (sw_rp σ2 18 (σ 18)) 44 (σ 44)) i = τ i := fun i h0 h4 => funext fun j => by
        unfold sw_rp
        rw [if_neg (by omega), if_neg h4, f2 i j (by omega) (by omega) (by omega) (by omega) (by omega)]
        exact f1 i j h4
      have gm : sw_gs (sw_rp (sw_rp σ2 18 (σ 18)) 44 (σ 44)) := fun i j => by
        unfold sw_rp
        split
        · exact hσ 44 j
        · split
          · exact hσ 18 j
          · exact gs2 i j
      have Jm : sw_J N (sw_rp (sw_rp σ2 18 (σ 18)) 44 (σ 44)) (sw_rp (sw_rp σ2 18 (σ 18)) 44 (σ 44)) := by
        refine sw_J_cong J gm gm (sw_fn_row (rr 1 (by decide) (by decide)) (rr 2 (by decide) (by decide)) (rr 3 (by decide) (by decide)) (rr 4 (by decide) (by decide)) fnt) (fun i j y1 y2 y3 y4 => ?_) (fun i j y1 y2 y3 y4 y5 y6 => ?_)
        · by_cases zz : i = 18
          · subst zz; rfl
          · rw [rr i y1 zz]; exact fk i j y3 y4 (fun z => absurd z y2)
        · by_cases zz : i = 44
          · subst zz; rfl
          · unfold sw_rp
            rw [if_neg zz, if_neg (by omega), f2 i j zz y2 y3 y4 y5]
            exact congrFun (km i y1) j
      have hm : ∀ q, σ2 44 q = (if 60 * 1 ≤ q ∧ q < 60 * 1 + K.toNat then sw_cv (σ 17 2) (τ2 38 (q - 60 * 1)) else σ 44 q) := fun q => by
        rw [← m3, ← f44]
        show (if 44 = 44 ∧ (60 * 1 ≤ q ∧ q < 60 * 1 + K.toNat) then sw_cv (σ 17 2) (τ2 38 (q - 60 * 1)) else τ2 44 q) = _
        by_cases zz : 60 * 1 ≤ q ∧ q < 60 * 1 + K.toNat
        · rw [if_pos ⟨rfl, zz⟩, if_pos zz]
        · rw [if_neg (fun y => zz y.2), if_neg zz]
      have hc : ∀ q, σ2 18 q = (if q < K.toNat then sw_cv (σ 17 2) (τ 25 q) else σ 18 q) := fun q => by
        rw [f2 18 q (by decide) (by decide) (by decide) (by decide) (by decide), ← h3, ← fc]
        show (if 18 = 18 ∧ q < K.toNat then sw_cv (σ 17 2) (τ 25 q) else τ 18 q) = _
        by_cases zz : q < K.toNat
        · rw [if_pos ⟨rfl, zz⟩, if_pos zz]
        · rw [if_neg (fun y => zz y.2), if_neg zz]
      refine ⟨_, h2, m2, sw_J_mono (N := N) (by omega) (sw_J_it1 Jm gs2 (fun i j y1 y2 => ?_) (fun j hj => ?_) (fun y hy => ?_))⟩
      · unfold sw_rp
        rw [if_neg y2, if_neg y1]
      · rw [hc, hm]
        by_cases zz : j < K.toNat
        · rw [if_pos zz, if_pos (by omega), show 60 * 1 + j - 60 * 1 = j by omega, ee j (by omega)]
        · rw [if_neg zz, if_neg (by omega)]; exact x6 j hj
      · rw [hm, if_neg (by omega)]
        rfl
theorem st_check1 (N : Int) (hN : 0 ≤ N ∧ N ≤ 900000) (σ : sw_S) (J : sw_J N σ σ)  : sw_St M_X7_check M_X8_check [.inl 1] N σ := by
  obtain ⟨⟨c, g0, w0, z0⟩, r0, l0, b0, s0⟩ := id J
  obtain ⟨hσ, hD, hV, hL, hpl, hspd, hbr, her, hmg, h61, h514, h513, h59, hro⟩ := id c
  obtain ⟨e0, e1, e10, e11, e12, e16, e17, e18, e19, e20, e32, e33, e39, er⟩ := id w0
  obtain ⟨e3, hz, hzz, hlm⟩ := id z0
  obtain ⟨hA, e2, hf, ⟨e7, hst, hsp⟩, e13⟩ := id r0
  obtain ⟨⟨el0, hl0⟩, ⟨el1, hl1⟩, ⟨ewt, hwt⟩, ⟨ekp, hkp⟩⟩ := id l0
  obtain ⟨efi, hsh⟩ := id s0
  obtain ⟨t0, t1, t2, t3⟩ := id hsh
  obtain ⟨x1, x2, x3, x4, x5, x6⟩ := id t1
  have ts : (1 : Int).toNat = 1 := rfl
  have hz4 : ∀ j : Nat, j < 4 → 0 ≤ σ 43 j ∧ σ 43 j ≤ 60 := fun j hj => by
    rcases (by omega : j = 0 ∨ j = 1 ∨ j = 2 ∨ j = 3) with rfl | rfl | rfl | rfl
    · rw [t0.2.2.2.1]; exact t0.2.2.2.2.1
    · rw [t1.2.2.2.1]; exact t1.2.2.2.2.1
    · rw [t2.2.2.2.1]; exact t2.2.2.2.2.1
    · rw [t3.2.2.2.1]; exact t3.2.2.2.2.1
  refine ⟨_, cc_check1 σ hσ hD hV hA hL x5.1 x5.2 hpl, fun r1 σ1 q1 => ?_⟩
  rcases q1 with ⟨h1, h2, h3⟩ | ⟨h1, h2, h3⟩ | ⟨h1, h3, m, m1, m2, m3, h2⟩
  · subst h3
    refine ⟨_, mm_check σ hσ (by omega) (by omega) (by omega) (by omega) (by omega) 1 (by decide) hz4, fun r2 σ2 q2 => ?_⟩
    rw [ts, e12] at q2
    rcases q2 with ⟨n1, n2, n3⟩ | ⟨n1, n2, n3⟩ | ⟨n1, n2, n3⟩ | ⟨n1, n2⟩
    · exfalso; omega
    · subst n3; exact ⟨_, h2, n2, sw_J_mono (N := N) (by omega) J⟩
    · exfalso; omega
    · exfalso; omega
  · have gs1 : sw_gs σ1 := by rw [← h3]; exact sw_gs_u hσ 0 9 (by decide)
    have k26 : σ1 26 = σ 26 := by subst h3; rfl
    have k41 : σ1 41 = σ 41 := by subst h3; rfl
    have k43 : σ1 43 = σ 43 := by subst h3; rfl
    refine ⟨_, mm_check σ1 gs1 (by rw [k26]; omega) (by rw [k26]; omega) (by rw [k26]; omega) (by rw [k26]; omega) (by rw [k26]; omega) 1 (by decide) (by rw [k43]; exact hz4), fun r2 σ2 q2 => ?_⟩
    rw [ts, k26, k41, e12] at q2
    rcases q2 with ⟨n1, n2, n3⟩ | ⟨n1, n2, n3⟩ | ⟨n1, n2, n3⟩ | ⟨n1, n2⟩
    · exfalso; omega
    · exfalso; omega
    · subst h3; subst n3; exact ⟨_, h2, n2, sw_J_mono (N := N) (by omega) ⟨⟨⟨(sw_gs_u (sw_gs_u hσ 0 9 (by decide)) 26 39 (by decide)), hD, hV, hL, hpl, hspd, hbr, her, hmg, h61, h514, h513, h59, hro⟩, (sw_gs_u (sw_gs_u hσ 0 9 (by decide)) 26 39 (by decide)), ⟨e0, e1, e10, e11, e12, e16, e17, e18, e19, e20, e32, e33, e39, er⟩, ⟨e3, hz, hzz, hlm⟩⟩, ⟨hA, e2, hf, ⟨e7, hst, hsp⟩, e13⟩, ⟨⟨el0, hl0⟩, ⟨el1, hl1⟩, ⟨ewt, hwt⟩, ⟨ekp, hkp⟩⟩, b0, ⟨rfl, hsh⟩⟩⟩
    · exfalso; omega
  · subst h3
    refine ⟨_, mm_check σ hσ (by omega) (by omega) (by omega) (by omega) (by omega) 1 (by decide) hz4, fun r2 σ2 q2 => ?_⟩
    rw [ts, e12, x4, e0, e1, e2, e10] at q2
    rcases q2 with ⟨n1, n2, n3⟩ | ⟨n1, n2, n3⟩ | ⟨n1, n2, n3⟩ | ⟨n1, n0, n, n2, n3, n4, n5⟩
    · exfalso; omega
    · exfalso; omega
    · exfalso; omega
    · have el : ∀ j : Nat, (j : Int) ≤ σ 1 0 → σ 2 j = σ2 35 j := fun j hj => by
        rw [← n0, ← hlm j hj]
        exact (sw_pf_in σ 35 (sw_lm σ) (by omega)).symm
      have ef : ∀ i : Nat, (i : Int) < σ 17 3 → σ 18 i = (fun j : Nat => σ 44 (60 * (1 : Int) + (j : Int)).toNat) i := fun i hi => by
        show σ 18 i = σ 44 (60 * (1 : Int) + (i : Int)).toNat
        rw [show (60 * (1 : Int) + (i : Int)).toNat = 60 * 1 + i by omega, x6 i (by omega)]
      have e := sw_lw_one hpl el ef m1 m2 m3 n2 n3 n4
      subst e
      have ev : (if (m : Int) = σ 17 3 ∧ (-σ 1 2 ≤ sw_pv (fun j : Nat => σ 44 (60 * (1 : Int) + (j : Int)).toNat) m ∧ sw_pv (fun j : Nat => σ 44 (60 * (1 : Int) + (j : Int)).toNat) m ≤ σ 1 2) then (m : Int) + 1000 else (m : Int)) = (if (m : Int) = σ 17 3 ∧ sw_abs (if σ 17 3 = 0 then 0 else σ 18 (σ 17 3 - 1).toNat) ≤ σ 1 2 then (m : Int) + 1000 else (m : Int)) := by
        by_cases zz : (m : Int) = σ 17 3
        · have ep : sw_pv (fun j : Nat => σ 44 (60 * (1 : Int) + (j : Int)).toNat) m = (if σ 17 3 = 0 then 0 else σ 18 (σ 17 3 - 1).toNat) := by
            by_cases z0 : σ 17 3 = 0
            · rw [if_pos z0, show m = 0 by omega]
              rfl
            · rw [if_neg z0, show m = (σ 17 3 - 1).toNat + 1 by omega, sw_pv]
              exact (ef (σ 17 3 - 1).toNat (by omega)).symm
          rw [ep]
          generalize (if σ 17 3 = 0 then 0 else σ 18 (σ 17 3 - 1).toNat) = L
          have ea : (-σ 1 2 ≤ L ∧ L ≤ σ 1 2) ↔ sw_abs L ≤ σ 1 2 := by
            unfold sw_abs
            split <;> omega
          by_cases y : sw_abs L ≤ σ 1 2
          · rw [if_pos ⟨zz, ea.mpr y⟩, if_pos ⟨zz, y⟩]
          · rw [if_neg (fun q => y (ea.mp q.2)), if_neg (fun q => y q.2)]
        · rw [if_neg (fun q => zz q.1), if_neg (fun q => zz q.1)]
      refine ⟨_, h2, n5.trans (congrArg (fun z : Int => some (Sum.inl z)) ev), sw_J_mono (N := N) (by omega) ?_⟩
      have g2 : sw_gs σ2 := by rw [← n0]; exact sw_pf_gs hσ 35 _ (fun j _ => sw_lm_g hσ j)
      have fr : ∀ i j, i ≠ 35 → σ2 i j = σ i j := fun i j hi => by rw [← n0]; exact sw_pf_row σ _ _ hi j
      refine sw_J_cong J g2 g2 ?_ (fun i j h _ _ _ => fr i j (by omega)) (fun i j _ h _ _ _ _ => fr i j h)
      subst n0
      exact hf
theorem st_plan2 (N : Int) (hN : 0 ≤ N ∧ N ≤ 900000) (σ : sw_S) (J : sw_J N σ σ) (q : Int) (gq : sw_g q) : sw_St M_X7_plan M_X8_plan [.inl 2, .inl q] N σ := by
  obtain ⟨⟨c, g0, w0, z0⟩, r0, l0, b0, s0⟩ := id J
  obtain ⟨hσ, hD, hV, hL, hpl, hspd, hbr, her, hmg, h61, h514, h513, h59, hro⟩ := id c
  obtain ⟨e0, e1, e10, e11, e12, e16, e17, e18, e19, e20, e32, e33, e39, er⟩ := id w0
  obtain ⟨e3, hz, hzz, hlm⟩ := id z0
  obtain ⟨hA, e2, hf, ⟨e7, hst, hsp⟩, e13⟩ := id r0
  obtain ⟨⟨el0, hl0⟩, ⟨el1, hl1⟩, ⟨ewt, hwt⟩, ⟨ekp, hkp⟩⟩ := id l0
  obtain ⟨efi, hsh⟩ := id s0
  obtain ⟨t0, t1, t2, t3⟩ := id hsh
  obtain ⟨x1, x2, x3, x4, x5, x6⟩ := id t2
  have ts : (2 : Int).toNat = 2 := rfl
  have hz4 : ∀ j : Nat, j < 4 → 0 ≤ σ 43 j ∧ σ 43 j ≤ 60 := fun j hj => by
    rcases (by omega : j = 0 ∨ j = 1 ∨ j = 2 ∨ j = 3) with rfl | rfl | rfl | rfl
    · rw [t0.2.2.2.1]; exact t0.2.2.2.2.1
    · rw [t1.2.2.2.1]; exact t1.2.2.2.2.1
    · rw [t2.2.2.2.1]; exact t2.2.2.2.2.1
    · rw [t3.2.2.2.1]; exact t3.2.2.2.2.1
  refine ⟨_, cc_plan2 σ hσ hD hV hA hL hf hpl x5.1 x5.2 x3 q gq, fun r1 σ1 q1 => ?_⟩
  rcases q1 with ⟨h1, h2, h3⟩ | ⟨h1, h2, h3⟩ | ⟨h1, h2, h3⟩ | ⟨h1, n, τ, fk, gt, fnt, hr, h2, h3⟩
  · have gs1 : sw_gs σ1 := by rw [← h3]; exact hσ
    have km : ∀ i, 26 ≤ i → σ1 i = σ i := fun i _ => by rw [← h3]
    have k26 := km 26 (by decide)
    have elm : ∀ j, sw_lm σ1 j = sw_lm σ j := sw_lm_row k26 (km 27 (by decide)) (km 28 (by decide)) (km 29 (by decide))
    refine ⟨_, mm_plan σ1 gs1 (by rw [k26]; omega) (by rw [k26]; omega) (by rw [k26]; omega) (by rw [k26]; omega) (σ 2) (fun j hj => by rw [elm]; rw [k26] at hj; exact (hlm j (by omega)).symm) (fun x x1 x2 => by rw [k26] at x2; exact (hL x x1 (by omega)).1) (by rw [k26]; omega) 2 (by decide) (by rw [km 43 (by decide)]; exact hz4) q gq, fun r2 σ2 q2 => ?_⟩
    rw [ts, k26, km 41 (by decide), km 42 (by decide), km 43 (by decide), e0, e1, e2, e10, e12, x2, x4] at q2
    rcases q2 with ⟨m1, m2, m3⟩ | ⟨m1, m2, m3⟩ | ⟨m1, m2, m3⟩ | ⟨m1, m2⟩
    · subst h3; subst m3; exact ⟨_, h2, m2, sw_J_mono (N := N) (by omega) J⟩
    · exfalso; omega
    · exfalso; omega
    · exfalso; omega
  · have gs1 : sw_gs σ1 := by rw [← h3]; exact hσ
    have km : ∀ i, 26 ≤ i → σ1 i = σ i := fun i _ => by rw [← h3]
    have k26 := km 26 (by decide)
    have elm : ∀ j, sw_lm σ1 j = sw_lm σ j := sw_lm_row k26 (km 27 (by decide)) (km 28 (by decide)) (km 29 (by decide))
    refine ⟨_, mm_plan σ1 gs1 (by rw [k26]; omega) (by rw [k26]; omega) (by rw [k26]; omega) (by rw [k26]; omega) (σ 2) (fun j hj => by rw [elm]; rw [k26] at hj; exact (hlm j (by omega)).symm) (fun x x1 x2 => by rw [k26] at x2; exact (hL x x1 (by omega)).1) (by rw [k26]; omega) 2 (by decide) (by rw [km 43 (by decide)]; exact hz4) q gq, fun r2 σ2 q2 => ?_⟩
    rw [ts, k26, km 41 (by decide), km 42 (by decide), km 43 (by decide), e0, e1, e2, e10, e12, x2, x4] at q2
    rcases q2 with ⟨m1, m2, m3⟩ | ⟨m1, m2, m3⟩ | ⟨m1, m2, m3⟩ | ⟨m1, m2⟩
    · exfalso; omega
    · subst h3; subst m3; exact ⟨_, h2, m2, sw_J_mono (N := N) (by omega) J⟩
    · exfalso; omega
    · exfalso; omega
  · have gs1 : sw_gs σ1 := by rw [← h3]; exact sw_gs_u hσ 0 9 (by decide)
    have km : ∀ i, 26 ≤ i → σ1 i = σ i := fun i hi => by rw [← h3]; funext j; exact sw_u_row _ _ (by omega)
    have k26 := km 26 (by decide)
    have elm : ∀ j, sw_lm σ1 j = sw_lm σ j := sw_lm_row k26 (km 27 (by decide)) (km 28 (by decide)) (km 29 (by decide))
    refine ⟨_, mm_plan σ1 gs1 (by rw [k26]; omega) (by rw [k26]; omega) (by rw [k26]; omega) (by rw [k26]; omega) (σ 2) (fun j hj => by rw [elm]; rw [k26] at hj; exact (hlm j (by omega)).symm) (fun x x1 x2 => by rw [k26] at x2; exact (hL x x1 (by omega)).1) (by rw [k26]; omega) 2 (by decide) (by rw [km 43 (by decide)]; exact hz4) q gq, fun r2 σ2 q2 => ?_⟩
    rw [ts, k26, km 41 (by decide), km 42 (by decide), km 43 (by decide), e0, e1, e2, e10, e12, x2, x4] at q2
    rcases q2 with ⟨m1, m2, m3⟩ | ⟨m1, m2, m3⟩ | ⟨m1, m2, m3⟩ | ⟨m1, m2⟩
    · exfalso; omega
    · exfalso; omega
    · subst h3; subst m3; exact ⟨_, h2, m2, sw_J_mono (N := N) (by omega) ⟨⟨⟨(sw_gs_u (sw_gs_u hσ 0 9 (by decide)) 26 39 (by decide)), hD, hV, hL, hpl, hspd, hbr, her, hmg, h61, h514, h513, h59, hro⟩, (sw_gs_u (sw_gs_u hσ 0 9 (by decide)) 26 39 (by decide)), ⟨e0, e1, e10, e11, e12, e16, e17, e18, e19, e20, e32, e33, e39, er⟩, ⟨e3, hz, hzz, hlm⟩⟩, ⟨hA, e2, hf, ⟨e7, hst, hsp⟩, e13⟩, ⟨⟨el0, hl0⟩, ⟨el1, hl1⟩, ⟨ewt, hwt⟩, ⟨ekp, hkp⟩⟩, b0, ⟨rfl, hsh⟩⟩⟩
    · exfalso; omega
  · have gs1 : sw_gs σ1 := by rw [← h3]; exact sw_pf_gs gt 20 _ (fun j _ => sw_cv_g (gt 25 j))
    have km : ∀ i, 26 ≤ i → σ1 i = σ i := fun i hi => by rw [← h3]; funext j; rw [sw_pf_row _ _ _ (by omega)]; exact congrFun (sw_fkc_m (by decide) fk i hi) j
    have k26 := km 26 (by decide)
    have elm : ∀ j, sw_lm σ1 j = sw_lm σ j := sw_lm_row k26 (km 27 (by decide)) (km 28 (by decide)) (km 29 (by decide))
    refine ⟨_, mm_plan σ1 gs1 (by rw [k26]; omega) (by rw [k26]; omega) (by rw [k26]; omega) (by rw [k26]; omega) (σ 2) (fun j hj => by rw [elm]; rw [k26] at hj; exact (hlm j (by omega)).symm) (fun x x1 x2 => by rw [k26] at x2; exact (hL x x1 (by omega)).1) (by rw [k26]; omega) 2 (by decide) (by rw [km 43 (by decide)]; exact hz4) q gq, fun r2 σ2 q2 => ?_⟩
    rw [ts, k26, km 41 (by decide), km 42 (by decide), km 43 (by decide), e0, e1, e2, e10, e12, x2, x4] at q2
    rcases q2 with ⟨m1, m2, m3⟩ | ⟨m1, m2, m3⟩ | ⟨m1, m2, m3⟩ | ⟨m1, m, τ2, fr, gt2, mr, m2, m3⟩
    · exfalso; omega
    · exfalso; omega
    · exfalso; omega
    · obtain ⟨e, ee⟩ := sw_isr_one hr mr
      subst e
      have hK : 0 ≤ (min (n : Int) (σ 19 3)) ∧ (min (n : Int) (σ 19 3)) ≤ 60 ∧ (min (n : Int) (σ 19 3)) ≤ n := by omega
      generalize (min (n : Int) (σ 19 3)) = K at h2 h3 m2 m3 hK
      have gs2 : sw_gs σ2 := by rw [← m3]; exact sw_pg_gs gt2 44 _ _ (fun j _ => sw_cv_g (gt2 38 j))
      have f2 : ∀ i j, i ≠ 44 → i ≠ 35 → i ≠ 36 → i ≠ 37 → i ≠ 38 → σ2 i j = σ1 i j := fun i j h0 h4 h5 h6 h7 => by rw [← m3, sw_pg_row _ _ _ _ h0]; exact fr i j h4 h5 h6 h7
      have f1 : ∀ i j, i ≠ 20 → σ1 i j = τ i j := fun i j h0 => by rw [← h3]; exact sw_pf_row _ _ _ h0 j
      have f44 : τ2 44 = σ 44 := funext fun j => (fr 44 j (by decide) (by decide) (by decide) (by decide)).trans (congrFun (km 44 (by decide)) j)
      have fc : τ 20 = σ 20 := funext fun j => fk 20 j (by decide) (by decide) (fun z => absurd z (by decide))
      have rr : ∀ i, i < 26 → i ≠ 20 → (sw_rp (sw_rp σ2 20 (σ 20)) 44 (σ 44)) i = τ i := fun i h0 h4 => funext fun j => by
        unfold sw_rp
        rw [if_neg (by omega), if_neg h4, f2 i j (by omega) (by omega) (by omega) (by omega) (by omega)]
        exact f1 i j h4
      have gm : sw_gs (sw_rp (sw_rp σ2 20 (σ 20)) 44 (σ 44)) := fun i j => by
        unfold sw_rp
        split
        · exact hσ 44 j
        · split
          · exact hσ 20 j
          · exact gs2 i j
      have Jm : sw_J N (sw_rp (sw_rp σ2 20 (σ 20)) 44 (σ 44)) (sw_rp (sw_rp σ2 20 (σ 20)) 44 (σ 44)) := by
        refine sw_J_cong J gm gm (sw_fn_row (rr 1 (by decide) (by decide)) (rr 2 (by decide) (by decide)) (rr 3 (by decide) (by decide)) (rr 4 (by decide) (by decide)) fnt) (fun i j y1 y2 y3 y4 => ?_) (fun i j y1 y2 y3 y4 y5 y6 => ?_)
        · by_cases zz : i = 20
          · subst zz; rfl
          · rw [rr i y1 zz]; exact fk i j y3 y4 (fun z => absurd z y2)
        · by_cases zz : i = 44
          · subst zz; rfl
          · unfold sw_rp
            rw [if_neg zz, if_neg (by omega), f2 i j zz y2 y3 y4 y5]
            exact congrFun (km i y1) j
      have hm : ∀ q, σ2 44 q = (if 60 * 2 ≤ q ∧ q < 60 * 2 + K.toNat then sw_cv (σ 19 2) (τ2 38 (q - 60 * 2)) else σ 44 q) := fun q => by
        rw [← m3, ← f44]
        show (if 44 = 44 ∧ (60 * 2 ≤ q ∧ q < 60 * 2 + K.toNat) then sw_cv (σ 19 2) (τ2 38 (q - 60 * 2)) else τ2 44 q) = _
        by_cases zz : 60 * 2 ≤ q ∧ q < 60 * 2 + K.toNat
        · rw [if_pos ⟨rfl, zz⟩, if_pos zz]
        · rw [if_neg (fun y => zz y.2), if_neg zz]
      have hc : ∀ q, σ2 20 q = (if q < K.toNat then sw_cv (σ 19 2) (τ 25 q) else σ 20 q) := fun q => by
        rw [f2 20 q (by decide) (by decide) (by decide) (by decide) (by decide), ← h3, ← fc]
        show (if 20 = 20 ∧ q < K.toNat then sw_cv (σ 19 2) (τ 25 q) else τ 20 q) = _
        by_cases zz : q < K.toNat
        · rw [if_pos ⟨rfl, zz⟩, if_pos zz]
        · rw [if_neg (fun y => zz y.2), if_neg zz]
      refine ⟨_, h2, m2, sw_J_mono (N := N) (by omega) (sw_J_it2 Jm gs2 (fun i j y1 y2 => ?_) (fun j hj => ?_) (fun y hy => ?_))⟩
      · unfold sw_rp
        rw [if_neg y2, if_neg y1]
      · rw [hc, hm]
        by_cases zz : j < K.toNat
        · rw [if_pos zz, if_pos (by omega), show 60 * 2 + j - 60 * 2 = j by omega, ee j (by omega)]
        · rw [if_neg zz, if_neg (by omega)]; exact x6 j hj
      · rw [hm, if_neg (by omega)]
        rfl
theorem st_check2 (N : Int) (hN : 0 ≤ N ∧ N ≤ 900000) (σ : sw_S) (J : sw_J N σ σ)  : sw_St M_X7_check M_X8_check [.inl 2] N σ := by
  obtain ⟨⟨c, g0, w0, z0⟩, r0, l0, b0, s0⟩ := id J
  obtain ⟨hσ, hD, hV, hL, hpl, hspd, hbr, her, hmg, h61, h514, h513, h59, hro⟩ := id c
  obtain ⟨e0, e1, e10, e11, e12, e16, e17, e18, e19, e20, e32, e33, e39, er⟩ := id w0
  obtain ⟨e3, hz, hzz, hlm⟩ := id z0
  obtain ⟨hA, e2, hf, ⟨e7, hst, hsp⟩, e13⟩ := id r0
  obtain ⟨⟨el0, hl0⟩, ⟨el1, hl1⟩, ⟨ewt, hwt⟩, ⟨ekp, hkp⟩⟩ := id l0
  obtain ⟨efi, hsh⟩ := id s0
  obtain ⟨t0, t1, t2, t3⟩ := id hsh
  obtain ⟨x1, x2, x3, x4, x5, x6⟩ := id t2
  have ts : (2 : Int).toNat = 2 := rfl
  have hz4 : ∀ j : Nat, j < 4 → 0 ≤ σ 43 j ∧ σ 43 j ≤ 60 := fun j hj => by
    rcases (by omega : j = 0 ∨ j = 1 ∨ j = 2 ∨ j = 3) with rfl | rfl | rfl | rfl
    · rw [t0.2.2.2.1]; exact t0.2.2.2.2.1
    · rw [t1.2.2.2.1]; exact t1.2.2.2.2.1
    · rw [t2.2.2.2.1]; exact t2.2.2.2.2.1
    · rw [t3.2.2.2.1]; exact t3.2.2.2.2.1
  refine ⟨_, cc_check2 σ hσ hD hV hA hL x5.1 x5.2 hpl, fun r1 σ1 q1 => ?_⟩
  rcases q1 with ⟨h1, h2, h3⟩ | ⟨h1, h2, h3⟩ | ⟨h1, h3, m, m1, m2, m3, h2⟩
  · subst h3
    refine ⟨_, mm_check σ hσ (by omega) (by omega) (by omega) (by omega) (by omega) 2 (by decide) hz4, fun r2 σ2 q2 => ?_⟩
    rw [ts, e12] at q2
    rcases q2 with ⟨n1, n2, n3⟩ | ⟨n1, n2, n3⟩ | ⟨n1, n2, n3⟩ | ⟨n1, n2⟩
    · exfalso; omega
    · subst n3; exact ⟨_, h2, n2, sw_J_mono (N := N) (by omega) J⟩
    · exfalso; omega
    · exfalso; omega
  · have gs1 : sw_gs σ1 := by rw [← h3]; exact sw_gs_u hσ 0 9 (by decide)
    have k26 : σ1 26 = σ 26 := by subst h3; rfl
    have k41 : σ1 41 = σ 41 := by subst h3; rfl
    have k43 : σ1 43 = σ 43 := by subst h3; rfl
    refine ⟨_, mm_check σ1 gs1 (by rw [k26]; omega) (by rw [k26]; omega) (by rw [k26]; omega) (by rw [k26]; omega) (by rw [k26]; omega) 2 (by decide) (by rw [k43]; exact hz4), fun r2 σ2 q2 => ?_⟩
    rw [ts, k26, k41, e12] at q2
    rcases q2 with ⟨n1, n2, n3⟩ | ⟨n1, n2, n3⟩ | ⟨n1, n2, n3⟩ | ⟨n1, n2⟩
    · exfalso; omega
    · exfalso; omega
    · subst h3; subst n3; exact ⟨_, h2, n2, sw_J_mono (N := N) (by omega) ⟨⟨⟨(sw_gs_u (sw_gs_u hσ 0 9 (by decide)) 26 39 (by decide)), hD, hV, hL, hpl, hspd, hbr, her, hmg, h61, h514, h513, h59, hro⟩, (sw_gs_u (sw_gs_u hσ 0 9 (by decide)) 26 39 (by decide)), ⟨e0, e1, e10, e11, e12, e16, e17, e18, e19, e20, e32, e33, e39, er⟩, ⟨e3, hz, hzz, hlm⟩⟩, ⟨hA, e2, hf, ⟨e7, hst, hsp⟩, e13⟩, ⟨⟨el0, hl0⟩, ⟨el1, hl1⟩, ⟨ewt, hwt⟩, ⟨ekp, hkp⟩⟩, b0, ⟨rfl, hsh⟩⟩⟩
    · exfalso; omega
  · subst h3
    refine ⟨_, mm_check σ hσ (by omega) (by omega) (by omega) (by omega) (by omega) 2 (by decide) hz4, fun r2 σ2 q2 => ?_⟩
    rw [ts, e12, x4, e0, e1, e2, e10] at q2
    rcases q2 with ⟨n1, n2, n3⟩ | ⟨n1, n2, n3⟩ | ⟨n1, n2, n3⟩ | ⟨n1, n0, n, n2, n3, n4, n5⟩
    · exfalso; omega
    · exfalso; omega
    · exfalso; omega
    · have el : ∀ j : Nat, (j : Int) ≤ σ 1 0 → σ 2 j = σ2 35 j := fun j hj => by
        rw [← n0, ← hlm j hj]
        exact (sw_pf_in σ 35 (sw_lm σ) (by omega)).symm
      have ef : ∀ i : Nat, (i : Int) < σ 19 3 → σ 20 i = (fun j : Nat => σ 44 (60 * (2 : Int) + (j : Int)).toNat) i := fun i hi => by
        show σ 20 i = σ 44 (60 * (2 : Int) + (i : Int)).toNat
        rw [show (60 * (2 : Int) + (i : Int)).toNat = 60 * 2 + i by omega, x6 i (by omega)]
      have e := sw_lw_one hpl el ef m1 m2 m3 n2 n3 n4
      subst e
      have ev : (if (m : Int) = σ 19 3 ∧ (-σ 1 2 ≤ sw_pv (fun j : Nat => σ 44 (60 * (2 : Int) + (j : Int)).toNat) m ∧ sw_pv (fun j : Nat => σ 44 (60 * (2 : Int) + (j : Int)).toNat) m ≤ σ 1 2) then (m : Int) + 1000 else (m : Int)) = (if (m : Int) = σ 19 3 ∧ sw_abs (if σ 19 3 = 0 then 0 else σ 20 (σ 19 3 - 1).toNat) ≤ σ 1 2 then (m : Int) + 1000 else (m : Int)) := by
        by_cases zz : (m : Int) = σ 19 3
        · have ep : sw_pv (fun j : Nat => σ 44 (60 * (2 : Int) + (j : Int)).toNat) m = (if σ 19 3 = 0 then 0 else σ 20 (σ 19 3 - 1).toNat) := by
            by_cases z0 : σ 19 3 = 0
            · rw [if_pos z0, show m = 0 by omega]
              rfl
            · rw [if_neg z0, show m = (σ 19 3 - 1).toNat + 1 by omega, sw_pv]
              exact (ef (σ 19 3 - 1).toNat (by omega)).symm
          rw [ep]
          generalize (if σ 19 3 = 0 then 0 else σ 20 (σ 19 3 - 1).toNat) = L
          have ea : (-σ 1 2 ≤ L ∧ L ≤ σ 1 2) ↔ sw_abs L ≤ σ 1 2 := by
            unfold sw_abs
            split <;> omega
          by_cases y : sw_abs L ≤ σ 1 2
          · rw [if_pos ⟨zz, ea.mpr y⟩, if_pos ⟨zz, y⟩]
          · rw [if_neg (fun q => y (ea.mp q.2)), if_neg (fun q => y q.2)]
        · rw [if_neg (fun q => zz q.1), if_neg (fun q => zz q.1)]
      refine ⟨_, h2, n5.trans (congrArg (fun z : Int => some (Sum.inl z)) ev), sw_J_mono (N := N) (by omega) ?_⟩
      have g2 : sw_gs σ2 := by rw [← n0]; exact sw_pf_gs hσ 35 _ (fun j _ => sw_lm_g hσ j)
      have fr : ∀ i j, i ≠ 35 → σ2 i j = σ i j := fun i j hi => by rw [← n0]; exact sw_pf_row σ _ _ hi j
      refine sw_J_cong J g2 g2 ?_ (fun i j h _ _ _ => fr i j (by omega)) (fun i j _ h _ _ _ _ => fr i j h)
      subst n0
      exact hf
theorem st_plan3 (N : Int) (hN : 0 ≤ N ∧ N ≤ 900000) (σ : sw_S) (J : sw_J N σ σ) (q : Int) (gq : sw_g q) : sw_St M_X7_plan M_X8_plan [.inl 3, .inl q] N σ := by
  obtain ⟨⟨c, g0, w0, z0⟩, r0, l0, b0, s0⟩ := id J
  obtain ⟨hσ, hD, hV, hL, hpl, hspd, hbr, her, hmg, h61, h514, h513, h59, hro⟩ := id c
  obtain ⟨e0, e1, e10, e11, e12, e16, e17, e18, e19, e20, e32, e33, e39, er⟩ := id w0
  obtain ⟨e3, hz, hzz, hlm⟩ := id z0
  obtain ⟨hA, e2, hf, ⟨e7, hst, hsp⟩, e13⟩ := id r0
  obtain ⟨⟨el0, hl0⟩, ⟨el1, hl1⟩, ⟨ewt, hwt⟩, ⟨ekp, hkp⟩⟩ := id l0
  obtain ⟨efi, hsh⟩ := id s0
  obtain ⟨t0, t1, t2, t3⟩ := id hsh
  obtain ⟨x1, x2, x3, x4, x5, x6⟩ := id t3
  have ts : (3 : Int).toNat = 3 := rfl
  have hz4 : ∀ j : Nat, j < 4 → 0 ≤ σ 43 j ∧ σ 43 j ≤ 60 := fun j hj => by
    rcases (by omega : j = 0 ∨ j = 1 ∨ j = 2 ∨ j = 3) with rfl | rfl | rfl | rfl
    · rw [t0.2.2.2.1]; exact t0.2.2.2.2.1
    · rw [t1.2.2.2.1]; exact t1.2.2.2.2.1
    · rw [t2.2.2.2.1]; exact t2.2.2.2.2.1
    · rw [t3.2.2.2.1]; exact t3.2.2.2.2.1
  refine ⟨_, cc_plan3 σ hσ hD hV hA hL hf hpl x5.1 x5.2 x3 q gq, fun r1 σ1 q1 => ?_⟩
  rcases q1 with ⟨h1, h2, h3⟩ | ⟨h1, h2, h3⟩ | ⟨h1, h2, h3⟩ | ⟨h1, n, τ, fk, gt, fnt, hr, h2, h3⟩
  · have gs1 : sw_gs σ1 := by rw [← h3]; exact hσ
    have km : ∀ i, 26 ≤ i → σ1 i = σ i := fun i _ => by rw [← h3]
    have k26 := km 26 (by decide)
    have elm : ∀ j, sw_lm σ1 j = sw_lm σ j := sw_lm_row k26 (km 27 (by decide)) (km 28 (by decide)) (km 29 (by decide))
    refine ⟨_, mm_plan σ1 gs1 (by rw [k26]; omega) (by rw [k26]; omega) (by rw [k26]; omega) (by rw [k26]; omega) (σ 2) (fun j hj => by rw [elm]; rw [k26] at hj; exact (hlm j (by omega)).symm) (fun x x1 x2 => by rw [k26] at x2; exact (hL x x1 (by omega)).1) (by rw [k26]; omega) 3 (by decide) (by rw [km 43 (by decide)]; exact hz4) q gq, fun r2 σ2 q2 => ?_⟩
    rw [ts, k26, km 41 (by decide), km 42 (by decide), km 43 (by decide), e0, e1, e2, e10, e12, x2, x4] at q2
    rcases q2 with ⟨m1, m2, m3⟩ | ⟨m1, m2, m3⟩ | ⟨m1, m2, m3⟩ | ⟨m1, m2⟩
    · subst h3; subst m3; exact ⟨_, h2, m2, sw_J_mono (N := N) (by omega) J⟩
    · exfalso; omega
    · exfalso; omega
    · exfalso; omega
  · have gs1 : sw_gs σ1 := by rw [← h3]; exact hσ
    have km : ∀ i, 26 ≤ i → σ1 i = σ i := fun i _ => by rw [← h3]
    have k26 := km 26 (by decide)
    have elm : ∀ j, sw_lm σ1 j = sw_lm σ j := sw_lm_row k26 (km 27 (by decide)) (km 28 (by decide)) (km 29 (by decide))
    refine ⟨_, mm_plan σ1 gs1 (by rw [k26]; omega) (by rw [k26]; omega) (by rw [k26]; omega) (by rw [k26]; omega) (σ 2) (fun j hj => by rw [elm]; rw [k26] at hj; exact (hlm j (by omega)).symm) (fun x x1 x2 => by rw [k26] at x2; exact (hL x x1 (by omega)).1) (by rw [k26]; omega) 3 (by decide) (by rw [km 43 (by decide)]; exact hz4) q gq, fun r2 σ2 q2 => ?_⟩
    rw [ts, k26, km 41 (by decide), km 42 (by decide), km 43 (by decide), e0, e1, e2, e10, e12, x2, x4] at q2
    rcases q2 with ⟨m1, m2, m3⟩ | ⟨m1, m2, m3⟩ | ⟨m1, m2, m3⟩ | ⟨m1, m2⟩
    · exfalso; omega
    · subst h3; subst m3; exact ⟨_, h2, m2, sw_J_mono (N := N) (by omega) J⟩
    · exfalso; omega
    · exfalso; omega
  · have gs1 : sw_gs σ1 := by rw [← h3]; exact sw_gs_u hσ 0 9 (by decide)
    have km : ∀ i, 26 ≤ i → σ1 i = σ i := fun i hi => by rw [← h3]; funext j; exact sw_u_row _ _ (by omega)
    have k26 := km 26 (by decide)
    have elm : ∀ j, sw_lm σ1 j = sw_lm σ j := sw_lm_row k26 (km 27 (by decide)) (km 28 (by decide)) (km 29 (by decide))
    refine ⟨_, mm_plan σ1 gs1 (by rw [k26]; omega) (by rw [k26]; omega) (by rw [k26]; omega) (by rw [k26]; omega) (σ 2) (fun j hj => by rw [elm]; rw [k26] at hj; exact (hlm j (by omega)).symm) (fun x x1 x2 => by rw [k26] at x2; exact (hL x x1 (by omega)).1) (by rw [k26]; omega) 3 (by decide) (by rw [km 43 (by decide)]; exact hz4) q gq, fun r2 σ2 q2 => ?_⟩
    rw [ts, k26, km 41 (by decide), km 42 (by decide), km 43 (by decide), e0, e1, e2, e10, e12, x2, x4] at q2
    rcases q2 with ⟨m1, m2, m3⟩ | ⟨m1, m2, m3⟩ | ⟨m1, m2, m3⟩ | ⟨m1, m2⟩
    · exfalso; omega
    · exfalso; omega
    · subst h3; subst m3; exact ⟨_, h2, m2, sw_J_mono (N := N) (by omega) ⟨⟨⟨(sw_gs_u (sw_gs_u hσ 0 9 (by decide)) 26 39 (by decide)), hD, hV, hL, hpl, hspd, hbr, her, hmg, h61, h514, h513, h59, hro⟩, (sw_gs_u (sw_gs_u hσ 0 9 (by decide)) 26 39 (by decide)), ⟨e0, e1, e10, e11, e12, e16, e17, e18, e19, e20, e32, e33, e39, er⟩, ⟨e3, hz, hzz, hlm⟩⟩, ⟨hA, e2, hf, ⟨e7, hst, hsp⟩, e13⟩, ⟨⟨el0, hl0⟩, ⟨el1, hl1⟩, ⟨ewt, hwt⟩, ⟨ekp, hkp⟩⟩, b0, ⟨rfl, hsh⟩⟩⟩
    · exfalso; omega
  · have gs1 : sw_gs σ1 := by rw [← h3]; exact sw_pf_gs gt 22 _ (fun j _ => sw_cv_g (gt 25 j))
    have km : ∀ i, 26 ≤ i → σ1 i = σ i := fun i hi => by rw [← h3]; funext j; rw [sw_pf_row _ _ _ (by omega)]; exact congrFun (sw_fkc_m (by decide) fk i hi) j
    have k26 := km 26 (by decide)
    have elm : ∀ j, sw_lm σ1 j = sw_lm σ j := sw_lm_row k26 (km 27 (by decide)) (km 28 (by decide)) (km 29 (by decide))
    refine ⟨_, mm_plan σ1 gs1 (by rw [k26]; omega) (by rw [k26]; omega) (by rw [k26]; omega) (by rw [k26]; omega) (σ 2) (fun j hj => by rw [elm]; rw [k26] at hj; exact (hlm j (by omega)).symm) (fun x x1 x2 => by rw [k26] at x2; exact (hL x x1 (by omega)).1) (by rw [k26]; omega) 3 (by decide) (by rw [km 43 (by decide)]; exact hz4) q gq, fun r2 σ2 q2 => ?_⟩
    rw [ts, k26, km 41 (by decide), km 42 (by decide), km 43 (by decide), e0, e1, e2, e10, e12, x2, x4] at q2
    rcases q2 with ⟨m1, m2, m3⟩ | ⟨m1, m2, m3⟩ | ⟨m1, m2, m3⟩ | ⟨m1, m, τ2, fr, gt2, mr, m2, m3⟩
    · exfalso; omega
    · exfalso; omega
    · exfalso; omega
    · obtain ⟨e, ee⟩ := sw_isr_one hr mr
      subst e
      have hK : 0 ≤ (min (n : Int) (σ 21 3)) ∧ (min (n : Int) (σ 21 3)) ≤ 60 ∧ (min (n : Int) (σ 21 3)) ≤ n := by omega
      generalize (min (n : Int) (σ 21 3)) = K at h2 h3 m2 m3 hK
      have gs2 : sw_gs σ2 := by rw [← m3]; exact sw_pg_gs gt2 44 _ _ (fun j _ => sw_cv_g (gt2 38 j))
      have f2 : ∀ i j, i ≠ 44 → i ≠ 35 → i ≠ 36 → i ≠ 37 → i ≠ 38 → σ2 i j = σ1 i j := fun i j h0 h4 h5 h6 h7 => by rw [← m3, sw_pg_row _ _ _ _ h0]; exact fr i j h4 h5 h6 h7
      have f1 : ∀ i j, i ≠ 22 → σ1 i j = τ i j := fun i j h0 => by rw [← h3]; exact sw_pf_row _ _ _ h0 j
      have f44 : τ2 44 = σ 44 := funext fun j => (fr 44 j (by decide) (by decide) (by decide) (by decide)).trans (congrFun (km 44 (by decide)) j)
      have fc : τ 22 = σ 22 := funext fun j => fk 22 j (by decide) (by decide) (fun z => absurd z (by decide))
      have rr : ∀ i, i < 26 → i ≠ 22 → (sw_rp (sw_rp σ2 22 (σ 22)) 44 (σ 44)) i = τ i := fun i h0 h4 => funext fun j => by
        unfold sw_rp
        rw [if_neg (by omega), if_neg h4, f2 i j (by omega) (by omega) (by omega) (by omega) (by omega)]
        exact f1 i j h4
      have gm : sw_gs (sw_rp (sw_rp σ2 22 (σ 22)) 44 (σ 44)) := fun i j => by
        unfold sw_rp
        split
        · exact hσ 44 j
        · split
          · exact hσ 22 j
          · exact gs2 i j
      have Jm : sw_J N (sw_rp (sw_rp σ2 22 (σ 22)) 44 (σ 44)) (sw_rp (sw_rp σ2 22 (σ 22)) 44 (σ 44)) := by
        refine sw_J_cong J gm gm (sw_fn_row (rr 1 (by decide) (by decide)) (rr 2 (by decide) (by decide)) (rr 3 (by decide) (by decide)) (rr 4 (by decide) (by decide)) fnt) (fun i j y1 y2 y3 y4 => ?_) (fun i j y1 y2 y3 y4 y5 y6 => ?_)
        · by_cases zz : i = 22
          · subst zz; rfl
          · rw [rr i y1 zz]; exact fk i j y3 y4 (fun z => absurd z y2)
        · by_cases zz : i = 44
          · subst zz; rfl
          · unfold sw_rp
            rw [if_neg zz, if_neg (by omega), f2 i j zz y2 y3 y4 y5]
            exact congrFun (km i y1) j
      have hm : ∀ q, σ2 44 q = (if 60 * 3 ≤ q ∧ q < 60 * 3 + K.toNat then sw_cv (σ 21 2) (τ2 38 (q - 60 * 3)) else σ 44 q) := fun q => by
        rw [← m3, ← f44]
        show (if 44 = 44 ∧ (60 * 3 ≤ q ∧ q < 60 * 3 + K.toNat) then sw_cv (σ 21 2) (τ2 38 (q - 60 * 3)) else τ2 44 q) = _
        by_cases zz : 60 * 3 ≤ q ∧ q < 60 * 3 + K.toNat
        · rw [if_pos ⟨rfl, zz⟩, if_pos zz]
        · rw [if_neg (fun y => zz y.2), if_neg zz]
      have hc : ∀ q, σ2 22 q = (if q < K.toNat then sw_cv (σ 21 2) (τ 25 q) else σ 22 q) := fun q => by
        rw [f2 22 q (by decide) (by decide) (by decide) (by decide) (by decide), ← h3, ← fc]
        show (if 22 = 22 ∧ q < K.toNat then sw_cv (σ 21 2) (τ 25 q) else τ 22 q) = _
        by_cases zz : q < K.toNat
        · rw [if_pos ⟨rfl, zz⟩, if_pos zz]
        · rw [if_neg (fun y => zz y.2), if_neg zz]
      refine ⟨_, h2, m2, sw_J_mono (N := N) (by omega) (sw_J_it3 Jm gs2 (fun i j y1 y2 => ?_) (fun j hj => ?_) (fun y hy => ?_))⟩
      · unfold sw_rp
        rw [if_neg y2, if_neg y1]
      · rw [hc, hm]
        by_cases zz : j < K.toNat
        · rw [if_pos zz, if_pos (by omega), show 60 * 3 + j - 60 * 3 = j by omega, ee j (by omega)]
        · rw [if_neg zz, if_neg (by omega)]; exact x6 j hj
      · rw [hm, if_neg (by omega)]
        rfl
theorem st_check3 (N : Int) (hN : 0 ≤ N ∧ N ≤ 900000) (σ : sw_S) (J : sw_J N σ σ)  : sw_St M_X7_check M_X8_check [.inl 3] N σ := by
  obtain ⟨⟨c, g0, w0, z0⟩, r0, l0, b0, s0⟩ := id J
  obtain ⟨hσ, hD, hV, hL, hpl, hspd, hbr, her, hmg, h61, h514, h513, h59, hro⟩ := id c
  obtain ⟨e0, e1, e10, e11, e12, e16, e17, e18, e19, e20, e32, e33, e39, er⟩ := id w0
  obtain ⟨e3, hz, hzz, hlm⟩ := id z0
  obtain ⟨hA, e2, hf, ⟨e7, hst, hsp⟩, e13⟩ := id r0
  obtain ⟨⟨el0, hl0⟩, ⟨el1, hl1⟩, ⟨ewt, hwt⟩, ⟨ekp, hkp⟩⟩ := id l0
  obtain ⟨efi, hsh⟩ := id s0
  obtain ⟨t0, t1, t2, t3⟩ := id hsh
  obtain ⟨x1, x2, x3, x4, x5, x6⟩ := id t3
  have ts : (3 : Int).toNat = 3 := rfl
  have hz4 : ∀ j : Nat, j < 4 → 0 ≤ σ 43 j ∧ σ 43 j ≤ 60 := fun j hj => by
    rcases (by omega : j = 0 ∨ j = 1 ∨ j = 2 ∨ j = 3) with rfl | rfl | rfl | rfl
    · rw [t0.2.2.2.1]; exact t0.2.2.2.2.1
    · rw [t1.2.2.2.1]; exact t1.2.2.2.2.1
    · rw [t2.2.2.2.1]; exact t2.2.2.2.2.1
    · rw [t3.2.2.2.1]; exact t3.2.2.2.2.1
  refine ⟨_, cc_check3 σ hσ hD hV hA hL x5.1 x5.2 hpl, fun r1 σ1 q1 => ?_⟩
  rcases q1 with ⟨h1, h2, h3⟩ | ⟨h1, h2, h3⟩ | ⟨h1, h3, m, m1, m2, m3, h2⟩
  · subst h3
    refine ⟨_, mm_check σ hσ (by omega) (by omega) (by omega) (by omega) (by omega) 3 (by decide) hz4, fun r2 σ2 q2 => ?_⟩
    rw [ts, e12] at q2
    rcases q2 with ⟨n1, n2, n3⟩ | ⟨n1, n2, n3⟩ | ⟨n1, n2, n3⟩ | ⟨n1, n2⟩
    · exfalso; omega
    · subst n3; exact ⟨_, h2, n2, sw_J_mono (N := N) (by omega) J⟩
    · exfalso; omega
    · exfalso; omega
  · have gs1 : sw_gs σ1 := by rw [← h3]; exact sw_gs_u hσ 0 9 (by decide)
    have k26 : σ1 26 = σ 26 := by subst h3; rfl
    have k41 : σ1 41 = σ 41 := by subst h3; rfl
    have k43 : σ1 43 = σ 43 := by subst h3; rfl
    refine ⟨_, mm_check σ1 gs1 (by rw [k26]; omega) (by rw [k26]; omega) (by rw [k26]; omega) (by rw [k26]; omega) (by rw [k26]; omega) 3 (by decide) (by rw [k43]; exact hz4), fun r2 σ2 q2 => ?_⟩
    rw [ts, k26, k41, e12] at q2
    rcases q2 with ⟨n1, n2, n3⟩ | ⟨n1, n2, n3⟩ | ⟨n1, n2, n3⟩ | ⟨n1, n2⟩
    · exfalso; omega
    · exfalso; omega
    · subst h3; subst n3; exact ⟨_, h2, n2, sw_J_mono (N := N) (by omega) ⟨⟨⟨(sw_gs_u (sw_gs_u hσ 0 9 (by decide)) 26 39 (by decide)), hD, hV, hL, hpl, hspd, hbr, her, hmg, h61, h514, h513, h59, hro⟩, (sw_gs_u (sw_gs_u hσ 0 9 (by decide)) 26 39 (by decide)), ⟨e0, e1, e10, e11, e12, e16, e17, e18, e19, e20, e32, e33, e39, er⟩, ⟨e3, hz, hzz, hlm⟩⟩, ⟨hA, e2, hf, ⟨e7, hst, hsp⟩, e13⟩, ⟨⟨el0, hl0⟩, ⟨el1, hl1⟩, ⟨ewt, hwt⟩, ⟨ekp, hkp⟩⟩, b0, ⟨rfl, hsh⟩⟩⟩
    · exfalso; omega
  · subst h3
    refine ⟨_, mm_check σ hσ (by omega) (by omega) (by omega) (by omega) (by omega) 3 (by decide) hz4, fun r2 σ2 q2 => ?_⟩
    rw [ts, e12, x4, e0, e1, e2, e10] at q2
    rcases q2 with ⟨n1, n2, n3⟩ | ⟨n1, n2, n3⟩ | ⟨n1, n2, n3⟩ | ⟨n1, n0, n, n2, n3, n4, n5⟩
    · exfalso; omega
    · exfalso; omega
    · exfalso; omega
    · have el : ∀ j : Nat, (j : Int) ≤ σ 1 0 → σ 2 j = σ2 35 j := fun j hj => by
        rw [← n0, ← hlm j hj]
        exact (sw_pf_in σ 35 (sw_lm σ) (by omega)).symm
      have ef : ∀ i : Nat, (i : Int) < σ 21 3 → σ 22 i = (fun j : Nat => σ 44 (60 * (3 : Int) + (j : Int)).toNat) i := fun i hi => by
        show σ 22 i = σ 44 (60 * (3 : Int) + (i : Int)).toNat
        rw [show (60 * (3 : Int) + (i : Int)).toNat = 60 * 3 + i by omega, x6 i (by omega)]
      have e := sw_lw_one hpl el ef m1 m2 m3 n2 n3 n4
      subst e
      have ev : (if (m : Int) = σ 21 3 ∧ (-σ 1 2 ≤ sw_pv (fun j : Nat => σ 44 (60 * (3 : Int) + (j : Int)).toNat) m ∧ sw_pv (fun j : Nat => σ 44 (60 * (3 : Int) + (j : Int)).toNat) m ≤ σ 1 2) then (m : Int) + 1000 else (m : Int)) = (if (m : Int) = σ 21 3 ∧ sw_abs (if σ 21 3 = 0 then 0 else σ 22 (σ 21 3 - 1).toNat) ≤ σ 1 2 then (m : Int) + 1000 else (m : Int)) := by
        by_cases zz : (m : Int) = σ 21 3
        · have ep : sw_pv (fun j : Nat => σ 44 (60 * (3 : Int) + (j : Int)).toNat) m = (if σ 21 3 = 0 then 0 else σ 22 (σ 21 3 - 1).toNat) := by
            by_cases z0 : σ 21 3 = 0
            · rw [if_pos z0, show m = 0 by omega]
              rfl
            · rw [if_neg z0, show m = (σ 21 3 - 1).toNat + 1 by omega, sw_pv]
              exact (ef (σ 21 3 - 1).toNat (by omega)).symm
          rw [ep]
          generalize (if σ 21 3 = 0 then 0 else σ 22 (σ 21 3 - 1).toNat) = L
          have ea : (-σ 1 2 ≤ L ∧ L ≤ σ 1 2) ↔ sw_abs L ≤ σ 1 2 := by
            unfold sw_abs
            split <;> omega
          by_cases y : sw_abs L ≤ σ 1 2
          · rw [if_pos ⟨zz, ea.mpr y⟩, if_pos ⟨zz, y⟩]
          · rw [if_neg (fun q => y (ea.mp q.2)), if_neg (fun q => y q.2)]
        · rw [if_neg (fun q => zz q.1), if_neg (fun q => zz q.1)]
      refine ⟨_, h2, n5.trans (congrArg (fun z : Int => some (Sum.inl z)) ev), sw_J_mono (N := N) (by omega) ?_⟩
      have g2 : sw_gs σ2 := by rw [← n0]; exact sw_pf_gs hσ 35 _ (fun j _ => sw_lm_g hσ j)
      have fr : ∀ i j, i ≠ 35 → σ2 i j = σ i j := fun i j hi => by rw [← n0]; exact sw_pf_row σ _ _ hi j
      refine sw_J_cong J g2 g2 ?_ (fun i j h _ _ _ => fr i j (by omega)) (fun i j _ h _ _ _ _ => fr i j h)
      subst n0
      exact hf
