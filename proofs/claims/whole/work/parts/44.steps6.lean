theorem st_copy00 (N : Int) (hN : 0 ≤ N ∧ N ≤ 900000) (σ : sw_S) (J : sw_J N σ σ) (i j m : Int) (gi : sw_g i) (gj : sw_g j) (gm : sw_g m) : sw_St M_X7_copy M_X8_copy [.inl 0, .inl i, .inl 0, .inl j, .inl m] N σ := by
  obtain ⟨⟨c, g0, w0, z0⟩, r0, l0, b0, s0⟩ := id J
  obtain ⟨hσ, hD, hV, hL, hpl, hspd, hbr, her, hmg, h61, h514, h513, h59, hro⟩ := id c
  obtain ⟨e0, e1, e10, e11, e12, e16, e17, e18, e19, e20, e32, e33, e39, er⟩ := id w0
  obtain ⟨e3, hz, hzz, hlm⟩ := id z0
  obtain ⟨hA, e2, hf, ⟨e7, hst, hsp⟩, e13⟩ := id r0
  obtain ⟨⟨el0, hl0⟩, ⟨el1, hl1⟩, ⟨ewt, hwt⟩, ⟨ekp, hkp⟩⟩ := id l0
  obtain ⟨efi, hsh⟩ := id s0
  obtain ⟨t0, t1, t2, t3⟩ := id hsh
  obtain ⟨x1, x2, x3, x4, x5, x6⟩ := id t0
  obtain ⟨y1, y2, y3, y4, y5, y6⟩ := id t0
  have ts : (0 : Int).toNat = 0 := rfl
  have tt : (0 : Int).toNat = 0 := rfl
  have hz4 : ∀ j : Nat, j < 4 → 0 ≤ σ 43 j ∧ σ 43 j ≤ 60 := fun j hj => by
    rcases (by omega : j = 0 ∨ j = 1 ∨ j = 2 ∨ j = 3) with rfl | rfl | rfl | rfl
    · rw [t0.2.2.2.1]; exact t0.2.2.2.2.1
    · rw [t1.2.2.2.1]; exact t1.2.2.2.2.1
    · rw [t2.2.2.2.1]; exact t2.2.2.2.2.1
    · rw [t3.2.2.2.1]; exact t3.2.2.2.2.1
  refine ⟨_, cc_copy00 σ hσ x5.1 x5.2 y5.1 y5.2 i j m gi gj gm, fun r1 σ1 q1 => ?_⟩
  rcases q1 with ⟨h1, h2, h3⟩ | ⟨h1, h2, h3⟩ | ⟨h1, h2, h3⟩ | ⟨h1, h2, h3⟩
  · have gs1 : sw_gs σ1 := by rw [← h3]; exact sw_gs_u hσ 0 9 (by decide)
    have k41 : σ1 41 = σ 41 := by subst h3; rfl
    have k42 : σ1 42 = σ 42 := by subst h3; rfl
    have k43 : σ1 43 = σ 43 := by subst h3; rfl
    have k44 : σ1 44 = σ 44 := by subst h3; rfl
    refine ⟨_, mm_copy σ1 gs1 0 i 0 j m (by decide) gi (by decide) gj gm (by rw [k43]; exact hz4), fun r2 σ2 q2 => ?_⟩
    rw [ts] at q2
    rw [k41, k42, k43, k44, x2, x4] at q2
    rcases q2 with ⟨n1, n2, n3⟩ | ⟨n1, n2, n3⟩ | ⟨n1, n2, n3⟩ | ⟨n1, n2, n3⟩ | ⟨n1, n2, n3⟩
    · exfalso; omega
    · subst h3; subst n3; exact ⟨_, h2, n2, sw_J_mono (N := N) (by omega) ⟨⟨⟨(sw_gs_u (sw_gs_u hσ 0 9 (by decide)) 26 39 (by decide)), hD, hV, hL, hpl, hspd, hbr, her, hmg, h61, h514, h513, h59, hro⟩, (sw_gs_u (sw_gs_u hσ 0 9 (by decide)) 26 39 (by decide)), ⟨e0, e1, e10, e11, e12, e16, e17, e18, e19, e20, e32, e33, e39, er⟩, ⟨e3, hz, hzz, hlm⟩⟩, ⟨hA, e2, hf, ⟨e7, hst, hsp⟩, e13⟩, ⟨⟨el0, hl0⟩, ⟨el1, hl1⟩, ⟨ewt, hwt⟩, ⟨ekp, hkp⟩⟩, b0, ⟨rfl, hsh⟩⟩⟩
    · exfalso; omega
    · exfalso; omega
    · exfalso; omega
  · have gs1 : sw_gs σ1 := by rw [← h3]; exact sw_gs_u hσ 0 9 (by decide)
    have k41 : σ1 41 = σ 41 := by subst h3; rfl
    have k42 : σ1 42 = σ 42 := by subst h3; rfl
    have k43 : σ1 43 = σ 43 := by subst h3; rfl
    have k44 : σ1 44 = σ 44 := by subst h3; rfl
    refine ⟨_, mm_copy σ1 gs1 0 i 0 j m (by decide) gi (by decide) gj gm (by rw [k43]; exact hz4), fun r2 σ2 q2 => ?_⟩
    rw [ts] at q2
    rw [k41, k42, k43, k44, x2, x4] at q2
    rcases q2 with ⟨n1, n2, n3⟩ | ⟨n1, n2, n3⟩ | ⟨n1, n2, n3⟩ | ⟨n1, n2, n3⟩ | ⟨n1, n2, n3⟩
    · exfalso; omega
    · exfalso; omega
    · subst h3; subst n3; exact ⟨_, h2, n2, sw_J_mono (N := N) (by omega) ⟨⟨⟨(sw_gs_u (sw_gs_u hσ 0 9 (by decide)) 26 39 (by decide)), hD, hV, hL, hpl, hspd, hbr, her, hmg, h61, h514, h513, h59, hro⟩, (sw_gs_u (sw_gs_u hσ 0 9 (by decide)) 26 39 (by decide)), ⟨e0, e1, e10, e11, e12, e16, e17, e18, e19, e20, e32, e33, e39, er⟩, ⟨e3, hz, hzz, hlm⟩⟩, ⟨hA, e2, hf, ⟨e7, hst, hsp⟩, e13⟩, ⟨⟨el0, hl0⟩, ⟨el1, hl1⟩, ⟨ewt, hwt⟩, ⟨ekp, hkp⟩⟩, b0, ⟨rfl, hsh⟩⟩⟩
    · exfalso; omega
    · exfalso; omega
  · have gs1 : sw_gs σ1 := by rw [← h3]; exact sw_gs_u hσ 0 9 (by decide)
    have k41 : σ1 41 = σ 41 := by subst h3; rfl
    have k42 : σ1 42 = σ 42 := by subst h3; rfl
    have k43 : σ1 43 = σ 43 := by subst h3; rfl
    have k44 : σ1 44 = σ 44 := by subst h3; rfl
    refine ⟨_, mm_copy σ1 gs1 0 i 0 j m (by decide) gi (by decide) gj gm (by rw [k43]; exact hz4), fun r2 σ2 q2 => ?_⟩
    rw [ts] at q2
    rw [k41, k42, k43, k44, x2, x4] at q2
    rcases q2 with ⟨n1, n2, n3⟩ | ⟨n1, n2, n3⟩ | ⟨n1, n2, n3⟩ | ⟨n1, n2, n3⟩ | ⟨n1, n2, n3⟩
    · exfalso; omega
    · exfalso; omega
    · exfalso; omega
    · subst h3; subst n3; exact ⟨_, h2, n2, sw_J_mono (N := N) (by omega) ⟨⟨⟨(sw_gs_u (sw_gs_u hσ 0 9 (by decide)) 26 39 (by decide)), hD, hV, hL, hpl, hspd, hbr, her, hmg, h61, h514, h513, h59, hro⟩, (sw_gs_u (sw_gs_u hσ 0 9 (by decide)) 26 39 (by decide)), ⟨e0, e1, e10, e11, e12, e16, e17, e18, e19, e20, e32, e33, e39, er⟩, ⟨e3, hz, hzz, hlm⟩⟩, ⟨hA, e2, hf, ⟨e7, hst, hsp⟩, e13⟩, ⟨⟨el0, hl0⟩, ⟨el1, hl1⟩, ⟨ewt, hwt⟩, ⟨ekp, hkp⟩⟩, b0, ⟨rfl, hsh⟩⟩⟩
    · exfalso; omega
  · have gs1 : sw_gs σ1 := by rw [← h3]; exact fun p q => by unfold sw_cp; split; exact hσ 16 _; exact hσ p q
    have k41 : σ1 41 = σ 41 := by subst h3; rfl
    have k42 : σ1 42 = σ 42 := by subst h3; rfl
    have k43 : σ1 43 = σ 43 := by subst h3; rfl
    have k44 : σ1 44 = σ 44 := by subst h3; rfl
    refine ⟨_, mm_copy σ1 gs1 0 i 0 j m (by decide) gi (by decide) gj gm (by rw [k43]; exact hz4), fun r2 σ2 q2 => ?_⟩
    rw [ts] at q2
    rw [k41, k42, k43, k44, x2, x4] at q2
    rcases q2 with ⟨n1, n2, n3⟩ | ⟨n1, n2, n3⟩ | ⟨n1, n2, n3⟩ | ⟨n1, n2, n3⟩ | ⟨n1, n2, n3⟩
    · exfalso; omega
    · exfalso; omega
    · exfalso; omega
    · exfalso; omega
    · have gs2 : sw_gs σ2 := by rw [← n3]; exact sw_pg_gs (sw_pf_gs gs1 45 _ (fun k _ => hσ 44 _)) 44 _ _ (fun k _ => sw_pf_gs gs1 45 _ (fun k _ => hσ 44 _) 45 k)
      have gp : sw_gs (sw_rp σ 45 (σ2 45)) := fun p q => by
        unfold sw_rp
        split
        · exact gs2 45 q
        · exact hσ p q
      have Jp : sw_J N (sw_rp σ 45 (σ2 45)) (sw_rp σ 45 (σ2 45)) := sw_J_cong J gp gp hf (fun p q z1 z2 z3 z4 => if_neg (by omega)) (fun p q z1 z2 z3 z4 z5 z6 => if_neg z6)
      have hm : ∀ q, σ2 44 q = (if 60 * 0 + j.toNat ≤ q ∧ q < 60 * 0 + j.toNat + m.toNat then σ 16 (i.toNat + (q - (60 * 0 + j.toNat))) else σ 44 q) := fun q => by
        rw [← n3]
        unfold sw_pg
        by_cases zz : 60 * 0 + j.toNat ≤ q ∧ q < 60 * 0 + j.toNat + m.toNat
        · rw [if_pos (by omega), if_pos zz, sw_pf_in _ 45 _ (by omega), show (60 * (0 : Int) + j).toNat = 60 * 0 + j.toNat by omega]
          rw [show (60 * (0 : Int) + i + ((q - (60 * 0 + j.toNat) : Nat) : Int)).toNat = 60 * 0 + (i.toNat + (q - (60 * 0 + j.toNat))) by omega]
          exact x6 _ (by omega)
        · rw [if_neg (by omega), if_neg zz, sw_pf_row _ _ _ (by decide), k44]
      have hc : ∀ q, σ2 16 q = (if j.toNat ≤ q ∧ q < j.toNat + m.toNat then σ 16 (i.toNat + (q - j.toNat)) else σ 16 q) := fun q => by
        rw [← n3, sw_pg_row _ _ _ _ (by decide), sw_pf_row _ _ _ (by decide), ← h3]
        unfold sw_cp
        by_cases zz : j.toNat ≤ q ∧ q < j.toNat + m.toNat
        · rw [if_pos ⟨rfl, zz⟩, if_pos zz]
        · rw [if_neg (fun y => zz y.2), if_neg zz]
      refine ⟨_, h2, n2, sw_J_mono (N := N) (by omega) (sw_J_it0 Jp gs2 (fun p q z1 z2 => ?_) (fun q hq => ?_) (fun q hq => ?_))⟩
      · unfold sw_rp
        by_cases zz : p = 45
        · rw [if_pos zz, zz]
        · rw [if_neg zz, ← n3, sw_pg_row _ _ _ _ z2, sw_pf_row _ _ _ zz, ← h3]
          unfold sw_cp
          rw [if_neg (fun y => z1 y.1)]
      · rw [hm, hc]
        by_cases zz : j.toNat ≤ q ∧ q < j.toNat + m.toNat
        · rw [if_pos zz, if_pos (by omega), show 60 * 0 + q - (60 * 0 + j.toNat) = q - j.toNat by omega]
        · rw [if_neg zz, if_neg (by omega)]; exact y6 q hq
      · rw [hm, if_neg (by omega)]
        rfl
theorem st_copy01 (N : Int) (hN : 0 ≤ N ∧ N ≤ 900000) (σ : sw_S) (J : sw_J N σ σ) (i j m : Int) (gi : sw_g i) (gj : sw_g j) (gm : sw_g m) : sw_St M_X7_copy M_X8_copy [.inl 0, .inl i, .inl 1, .inl j, .inl m] N σ := by
  obtain ⟨⟨c, g0, w0, z0⟩, r0, l0, b0, s0⟩ := id J
  obtain ⟨hσ, hD, hV, hL, hpl, hspd, hbr, her, hmg, h61, h514, h513, h59, hro⟩ := id c
  obtain ⟨e0, e1, e10, e11, e12, e16, e17, e18, e19, e20, e32, e33, e39, er⟩ := id w0
  obtain ⟨e3, hz, hzz, hlm⟩ := id z0
  obtain ⟨hA, e2, hf, ⟨e7, hst, hsp⟩, e13⟩ := id r0
  obtain ⟨⟨el0, hl0⟩, ⟨el1, hl1⟩, ⟨ewt, hwt⟩, ⟨ekp, hkp⟩⟩ := id l0
  obtain ⟨efi, hsh⟩ := id s0
  obtain ⟨t0, t1, t2, t3⟩ := id hsh
  obtain ⟨x1, x2, x3, x4, x5, x6⟩ := id t0
  obtain ⟨y1, y2, y3, y4, y5, y6⟩ := id t1
  have ts : (0 : Int).toNat = 0 := rfl
  have tt : (1 : Int).toNat = 1 := rfl
  have hz4 : ∀ j : Nat, j < 4 → 0 ≤ σ 43 j ∧ σ 43 j ≤ 60 := fun j hj => by
    rcases (by omega : j = 0 ∨ j = 1 ∨ j = 2 ∨ j = 3) with rfl | rfl | rfl | rfl
    · rw [t0.2.2.2.1]; exact t0.2.2.2.2.1
    · rw [t1.2.2.2.1]; exact t1.2.2.2.2.1
    · rw [t2.2.2.2.1]; exact t2.2.2.2.2.1
    · rw [t3.2.2.2.1]; exact t3.2.2.2.2.1
  refine ⟨_, cc_copy01 σ hσ x5.1 x5.2 y5.1 y5.2 i j m gi gj gm, fun r1 σ1 q1 => ?_⟩
  rcases q1 with ⟨h1, h2, h3⟩ | ⟨h1, h2, h3⟩ | ⟨h1, h2, h3⟩ | ⟨h1, h2, h3⟩
  · have gs1 : sw_gs σ1 := by rw [← h3]; exact sw_gs_u hσ 0 9 (by decide)
    have k41 : σ1 41 = σ 41 := by subst h3; rfl
    have k42 : σ1 42 = σ 42 := by subst h3; rfl
    have k43 : σ1 43 = σ 43 := by subst h3; rfl
    have k44 : σ1 44 = σ 44 := by subst h3; rfl
    refine ⟨_, mm_copy σ1 gs1 0 i 1 j m (by decide) gi (by decide) gj gm (by rw [k43]; exact hz4), fun r2 σ2 q2 => ?_⟩
    rw [ts] at q2
    rw [tt] at q2
    rw [k41, k42, k43, k44, x2, x4] at q2
    rw [y2, y4] at q2
    rcases q2 with ⟨n1, n2, n3⟩ | ⟨n1, n2, n3⟩ | ⟨n1, n2, n3⟩ | ⟨n1, n2, n3⟩ | ⟨n1, n2, n3⟩
    · exfalso; omega
    · subst h3; subst n3; exact ⟨_, h2, n2, sw_J_mono (N := N) (by omega) ⟨⟨⟨(sw_gs_u (sw_gs_u hσ 0 9 (by decide)) 26 39 (by decide)), hD, hV, hL, hpl, hspd, hbr, her, hmg, h61, h514, h513, h59, hro⟩, (sw_gs_u (sw_gs_u hσ 0 9 (by decide)) 26 39 (by decide)), ⟨e0, e1, e10, e11, e12, e16, e17, e18, e19, e20, e32, e33, e39, er⟩, ⟨e3, hz, hzz, hlm⟩⟩, ⟨hA, e2, hf, ⟨e7, hst, hsp⟩, e13⟩, ⟨⟨el0, hl0⟩, ⟨el1, hl1⟩, ⟨ewt, hwt⟩, ⟨ekp, hkp⟩⟩, b0, ⟨rfl, hsh⟩⟩⟩
    · exfalso; omega
    · exfalso; omega
    · exfalso; omega
  · have gs1 : sw_gs σ1 := by rw [← h3]; exact sw_gs_u hσ 0 9 (by decide)
    have k41 : σ1 41 = σ 41 := by subst h3; rfl
    have k42 : σ1 42 = σ 42 := by subst h3; rfl
    have k43 : σ1 43 = σ 43 := by subst h3; rfl
    have k44 : σ1 44 = σ 44 := by subst h3; rfl
    refine ⟨_, mm_copy σ1 gs1 0 i 1 j m (by decide) gi (by decide) gj gm (by rw [k43]; exact hz4), fun r2 σ2 q2 => ?_⟩
    rw [ts] at q2
    rw [tt] at q2
    rw [k41, k42, k43, k44, x2, x4] at q2
    rw [y2, y4] at q2
    rcases q2 with ⟨n1, n2, n3⟩ | ⟨n1, n2, n3⟩ | ⟨n1, n2, n3⟩ | ⟨n1, n2, n3⟩ | ⟨n1, n2, n3⟩
    · exfalso; omega
    · exfalso; omega
    · subst h3; subst n3; exact ⟨_, h2, n2, sw_J_mono (N := N) (by omega) ⟨⟨⟨(sw_gs_u (sw_gs_u hσ 0 9 (by decide)) 26 39 (by decide)), hD, hV, hL, hpl, hspd, hbr, her, hmg, h61, h514, h513, h59, hro⟩, (sw_gs_u (sw_gs_u hσ 0 9 (by decide)) 26 39 (by decide)), ⟨e0, e1, e10, e11, e12, e16, e17, e18, e19, e20, e32, e33, e39, er⟩, ⟨e3, hz, hzz, hlm⟩⟩, ⟨hA, e2, hf, ⟨e7, hst, hsp⟩, e13⟩, ⟨⟨el0, hl0⟩, ⟨el1, hl1⟩, ⟨ewt, hwt⟩, ⟨ekp, hkp⟩⟩, b0, ⟨rfl, hsh⟩⟩⟩
    · exfalso; omega
    · exfalso; omega
  · have gs1 : sw_gs σ1 := by rw [← h3]; exact sw_gs_u hσ 0 9 (by decide)
    have k41 : σ1 41 = σ 41 := by subst h3; rfl
    have k42 : σ1 42 = σ 42 := by subst h3; rfl
    have k43 : σ1 43 = σ 43 := by subst h3; rfl
    have k44 : σ1 44 = σ 44 := by subst h3; rfl
    refine ⟨_, mm_copy σ1 gs1 0 i 1 j m (by decide) gi (by decide) gj gm (by rw [k43]; exact hz4), fun r2 σ2 q2 => ?_⟩
    rw [ts] at q2
    rw [tt] at q2
    rw [k41, k42, k43, k44, x2, x4] at q2
    rw [y2, y4] at q2
    rcases q2 with ⟨n1, n2, n3⟩ | ⟨n1, n2, n3⟩ | ⟨n1, n2, n3⟩ | ⟨n1, n2, n3⟩ | ⟨n1, n2, n3⟩
    · exfalso; omega
    · exfalso; omega
    · exfalso; omega
    · subst h3; subst n3; exact ⟨_, h2, n2, sw_J_mono (N := N) (by omega) ⟨⟨⟨(sw_gs_u (sw_gs_u hσ 0 9 (by decide)) 26 39 (by decide)), hD, hV, hL, hpl, hspd, hbr, her, hmg, h61, h514, h513, h59, hro⟩, (sw_gs_u (sw_gs_u hσ 0 9 (by decide)) 26 39 (by decide)), ⟨e0, e1, e10, e11, e12, e16, e17, e18, e19, e20, e32, e33, e39, er⟩, ⟨e3, hz, hzz, hlm⟩⟩, ⟨hA, e2, hf, ⟨e7, hst, hsp⟩, e13⟩, ⟨⟨el0, hl0⟩, ⟨el1, hl1⟩, ⟨ewt, hwt⟩, ⟨ekp, hkp⟩⟩, b0, ⟨rfl, hsh⟩⟩⟩
    · exfalso; omega
  · have gs1 : sw_gs σ1 := by rw [← h3]; exact fun p q => by unfold sw_cp; split; exact hσ 16 _; exact hσ p q
    have k41 : σ1 41 = σ 41 := by subst h3; rfl
    have k42 : σ1 42 = σ 42 := by subst h3; rfl
    have k43 : σ1 43 = σ 43 := by subst h3; rfl
    have k44 : σ1 44 = σ 44 := by subst h3; rfl
    refine ⟨_, mm_copy σ1 gs1 0 i 1 j m (by decide) gi (by decide) gj gm (by rw [k43]; exact hz4), fun r2 σ2 q2 => ?_⟩
    rw [ts] at q2
    rw [tt] at q2
    rw [k41, k42, k43, k44, x2, x4] at q2
    rw [y2, y4] at q2
    rcases q2 with ⟨n1, n2, n3⟩ | ⟨n1, n2, n3⟩ | ⟨n1, n2, n3⟩ | ⟨n1, n2, n3⟩ | ⟨n1, n2, n3⟩
    · exfalso; omega
    · exfalso; omega
    · exfalso; omega
    · exfalso; omega
    · have gs2 : sw_gs σ2 := by rw [← n3]; exact sw_pg_gs (sw_pf_gs gs1 45 _ (fun k _ => hσ 44 _)) 44 _ _ (fun k _ => sw_pf_gs gs1 45 _ (fun k _ => hσ 44 _) 45 k)
      have gp : sw_gs (sw_rp σ 45 (σ2 45)) := fun p q => by
        unfold sw_rp
        split
        · exact gs2 45 q
        · exact hσ p q
      have Jp : sw_J N (sw_rp σ 45 (σ2 45)) (sw_rp σ 45 (σ2 45)) := sw_J_cong J gp gp hf (fun p q z1 z2 z3 z4 => if_neg (by omega)) (fun p q z1 z2 z3 z4 z5 z6 => if_neg z6)
      have hm : ∀ q, σ2 44 q = (if 60 * 1 + j.toNat ≤ q ∧ q < 60 * 1 + j.toNat + m.toNat then σ 16 (i.toNat + (q - (60 * 1 + j.toNat))) else σ 44 q) := fun q => by
        rw [← n3]
        unfold sw_pg
        by_cases zz : 60 * 1 + j.toNat ≤ q ∧ q < 60 * 1 + j.toNat + m.toNat
        · rw [if_pos (by omega), if_pos zz, sw_pf_in _ 45 _ (by omega), show (60 * (1 : Int) + j).toNat = 60 * 1 + j.toNat by omega]
          rw [show (60 * (0 : Int) + i + ((q - (60 * 1 + j.toNat) : Nat) : Int)).toNat = 60 * 0 + (i.toNat + (q - (60 * 1 + j.toNat))) by omega]
          exact x6 _ (by omega)
        · rw [if_neg (by omega), if_neg zz, sw_pf_row _ _ _ (by decide), k44]
      have hc : ∀ q, σ2 18 q = (if j.toNat ≤ q ∧ q < j.toNat + m.toNat then σ 16 (i.toNat + (q - j.toNat)) else σ 18 q) := fun q => by
        rw [← n3, sw_pg_row _ _ _ _ (by decide), sw_pf_row _ _ _ (by decide), ← h3]
        unfold sw_cp
        by_cases zz : j.toNat ≤ q ∧ q < j.toNat + m.toNat
        · rw [if_pos ⟨rfl, zz⟩, if_pos zz]
        · rw [if_neg (fun y => zz y.2), if_neg zz]
      refine ⟨_, h2, n2, sw_J_mono (N := N) (by omega) (sw_J_it1 Jp gs2 (fun p q z1 z2 => ?_) (fun q hq => ?_) (fun q hq => ?_))⟩
      · unfold sw_rp
        by_cases zz : p = 45
        · rw [if_pos zz, zz]
        · rw [if_neg zz, ← n3, sw_pg_row _ _ _ _ z2, sw_pf_row _ _ _ zz, ← h3]
          unfold sw_cp
          rw [if_neg (fun y => z1 y.1)]
      · rw [hm, hc]
        by_cases zz : j.toNat ≤ q ∧ q < j.toNat + m.toNat
        · rw [if_pos zz, if_pos (by omega), show 60 * 1 + q - (60 * 1 + j.toNat) = q - j.toNat by omega]
        · rw [if_neg zz, if_neg (by omega)]; exact y6 q hq
      · rw [hm, if_neg (by omega)]
        rfl
theorem st_copy02 (N : Int) (hN : 0 ≤ N ∧ N ≤ 900000) (σ : sw_S) (J : sw_J N σ σ) (i j m : Int) (gi : sw_g i) (gj : sw_g j) (gm : sw_g m) : sw_St M_X7_copy M_X8_copy [.inl 0, .inl i, .inl 2, .inl j, .inl m] N σ := by
  obtain ⟨⟨c, g0, w0, z0⟩, r0, l0, b0, s0⟩ := id J
  obtain ⟨hσ, hD, hV, hL, hpl, hspd, hbr, her, hmg, h61, h514, h513, h59, hro⟩ := id c
  obtain ⟨e0, e1, e10, e11, e12, e16, e17, e18, e19, e20, e32, e33, e39, er⟩ := id w0
  obtain ⟨e3, hz, hzz, hlm⟩ := id z0
  obtain ⟨hA, e2, hf, ⟨e7, hst, hsp⟩, e13⟩ := id r0
  obtain ⟨⟨el0, hl0⟩, ⟨el1, hl1⟩, ⟨ewt, hwt⟩, ⟨ekp, hkp⟩⟩ := id l0
  obtain ⟨efi, hsh⟩ := id s0
  obtain ⟨t0, t1, t2, t3⟩ := id hsh
  obtain ⟨x1, x2, x3, x4, x5, x6⟩ := id t0
  obtain ⟨y1, y2, y3, y4, y5, y6⟩ := id t2
  have ts : (0 : Int).toNat = 0 := rfl
  have tt : (2 : Int).toNat = 2 := rfl
  have hz4 : ∀ j : Nat, j < 4 → 0 ≤ σ 43 j ∧ σ 43 j ≤ 60 := fun j hj => by
    rcases (by omega : j = 0 ∨ j = 1 ∨ j = 2 ∨ j = 3) with rfl | rfl | rfl | rfl
    · rw [t0.2.2.2.1]; exact t0.2.2.2.2.1
    · rw [t1.2.2.2.1]; exact t1.2.2.2.2.1
    · rw [t2.2.2.2.1]; exact t2.2.2.2.2.1
    · rw [t3.2.2.2.1]; exact t3.2.2.2.2.1
  refine ⟨_, cc_copy02 σ hσ x5.1 x5.2 y5.1 y5.2 i j m gi gj gm, fun r1 σ1 q1 => ?_⟩
  rcases q1 with ⟨h1, h2, h3⟩ | ⟨h1, h2, h3⟩ | ⟨h1, h2, h3⟩ | ⟨h1, h2, h3⟩
  · have gs1 : sw_gs σ1 := by rw [← h3]; exact sw_gs_u hσ 0 9 (by decide)
    have k41 : σ1 41 = σ 41 := by subst h3; rfl
    have k42 : σ1 42 = σ 42 := by subst h3; rfl
    have k43 : σ1 43 = σ 43 := by subst h3; rfl
    have k44 : σ1 44 = σ 44 := by subst h3; rfl
    refine ⟨_, mm_copy σ1 gs1 0 i 2 j m (by decide) gi (by decide) gj gm (by rw [k43]; exact hz4), fun r2 σ2 q2 => ?_⟩
    rw [ts] at q2
    rw [tt] at q2
    rw [k41, k42, k43, k44, x2, x4] at q2
    rw [y2, y4] at q2
    rcases q2 with ⟨n1, n2, n3⟩ | ⟨n1, n2, n3⟩ | ⟨n1, n2, n3⟩ | ⟨n1, n2, n3⟩ | ⟨n1, n2, n3⟩
    · exfalso; omega
    · subst h3; subst n3; exact ⟨_, h2, n2, sw_J_mono (N := N) (by omega) ⟨⟨⟨(sw_gs_u (sw_gs_u hσ 0 9 (by decide)) 26 39 (by decide)), hD, hV, hL, hpl, hspd, hbr, her, hmg, h61, h514, h513, h59, hro⟩, (sw_gs_u (sw_gs_u hσ 0 9 (by decide)) 26 39 (by decide)), ⟨e0, e1, e10, e11, e12, e16, e17, e18, e19, e20, e32, e33, e39, er⟩, ⟨e3, hz, hzz, hlm⟩⟩, ⟨hA, e2, hf, ⟨e7, hst, hsp⟩, e13⟩, ⟨⟨el0, hl0⟩, ⟨el1, hl1⟩, ⟨ewt, hwt⟩, ⟨ekp, hkp⟩⟩, b0, ⟨rfl, hsh⟩⟩⟩
    · exfalso; omega
    · exfalso; omega
    · exfalso; omega
  · have gs1 : sw_gs σ1 := by rw [← h3]; exact sw_gs_u hσ 0 9 (by decide)
    have k41 : σ1 41 = σ 41 := by subst h3; rfl
    have k42 : σ1 42 = σ 42 := by subst h3; rfl
    have k43 : σ1 43 = σ 43 := by subst h3; rfl
    have k44 : σ1 44 = σ 44 := by subst h3; rfl
    refine ⟨_, mm_copy σ1 gs1 0 i 2 j m (by decide) gi (by decide) gj gm (by rw [k43]; exact hz4), fun r2 σ2 q2 => ?_⟩
    rw [ts] at q2
    rw [tt] at q2
    rw [k41, k42, k43, k44, x2, x4] at q2
    rw [y2, y4] at q2
    rcases q2 with ⟨n1, n2, n3⟩ | ⟨n1, n2, n3⟩ | ⟨n1, n2, n3⟩ | ⟨n1, n2, n3⟩ | ⟨n1, n2, n3⟩
    · exfalso; omega
    · exfalso; omega
    · subst h3; subst n3; exact ⟨_, h2, n2, sw_J_mono (N := N) (by omega) ⟨⟨⟨(sw_gs_u (sw_gs_u hσ 0 9 (by decide)) 26 39 (by decide)), hD, hV, hL, hpl, hspd, hbr, her, hmg, h61, h514, h513, h59, hro⟩, (sw_gs_u (sw_gs_u hσ 0 9 (by decide)) 26 39 (by decide)), ⟨e0, e1, e10, e11, e12, e16, e17, e18, e19, e20, e32, e33, e39, er⟩, ⟨e3, hz, hzz, hlm⟩⟩, ⟨hA, e2, hf, ⟨e7, hst, hsp⟩, e13⟩, ⟨⟨el0, hl0⟩, ⟨el1, hl1⟩, ⟨ewt, hwt⟩, ⟨ekp, hkp⟩⟩, b0, ⟨rfl, hsh⟩⟩⟩
    · exfalso; omega
    · exfalso; omega
  · have gs1 : sw_gs σ1 := by rw [← h3]; exact sw_gs_u hσ 0 9 (by decide)
    have k41 : σ1 41 = σ 41 := by subst h3; rfl
    have k42 : σ1 42 = σ 42 := by subst h3; rfl
    have k43 : σ1 43 = σ 43 := by subst h3; rfl
    have k44 : σ1 44 = σ 44 := by subst h3; rfl
    refine ⟨_, mm_copy σ1 gs1 0 i 2 j m (by decide) gi (by decide) gj gm (by rw [k43]; exact hz4), fun r2 σ2 q2 => ?_⟩
    rw [ts] at q2
    rw [tt] at q2
    rw [k41, k42, k43, k44, x2, x4] at q2
    rw [y2, y4] at q2
    rcases q2 with ⟨n1, n2, n3⟩ | ⟨n1, n2, n3⟩ | ⟨n1, n2, n3⟩ | ⟨n1, n2, n3⟩ | ⟨n1, n2, n3⟩
    · exfalso; omega
    · exfalso; omega
    · exfalso; omega
    · subst h3; subst n3; exact ⟨_, h2, n2, sw_J_mono (N := N) (by omega) ⟨⟨⟨(sw_gs_u (sw_gs_u hσ 0 9 (by decide)) 26 39 (by decide)), hD, hV, hL, hpl, hspd, hbr, her, hmg, h61, h514, h513, h59, hro⟩, (sw_gs_u (sw_gs_u hσ 0 9 (by decide)) 26 39 (by decide)), ⟨e0, e1, e10, e11, e12, e16, e17, e18, e19, e20, e32, e33, e39, er⟩, ⟨e3, hz, hzz, hlm⟩⟩, ⟨hA, e2, hf, ⟨e7, hst, hsp⟩, e13⟩, ⟨⟨el0, hl0⟩, ⟨el1, hl1⟩, ⟨ewt, hwt⟩, ⟨ekp, hkp⟩⟩, b0, ⟨rfl, hsh⟩⟩⟩
    · exfalso; omega
  · have gs1 : sw_gs σ1 := by rw [← h3]; exact fun p q => by unfold sw_cp; split; exact hσ 16 _; exact hσ p q
    have k41 : σ1 41 = σ 41 := by subst h3; rfl
    have k42 : σ1 42 = σ 42 := by subst h3; rfl
    have k43 : σ1 43 = σ 43 := by subst h3; rfl
    have k44 : σ1 44 = σ 44 := by subst h3; rfl
    refine ⟨_, mm_copy σ1 gs1 0 i 2 j m (by decide) gi (by decide) gj gm (by rw [k43]; exact hz4), fun r2 σ2 q2 => ?_⟩
    rw [ts] at q2
    rw [tt] at q2
    rw [k41, k42, k43, k44, x2, x4] at q2
    rw [y2, y4] at q2
    rcases q2 with ⟨n1, n2, n3⟩ | ⟨n1, n2, n3⟩ | ⟨n1, n2, n3⟩ | ⟨n1, n2, n3⟩ | ⟨n1, n2, n3⟩
    · exfalso; omega
    · exfalso; omega
    · exfalso; omega
    · exfalso; omega
    · have gs2 : sw_gs σ2 := by rw [← n3]; exact sw_pg_gs (sw_pf_gs gs1 45 _ (fun k _ => hσ 44 _)) 44 _ _ (fun k _ => sw_pf_gs gs1 45 _ (fun k _ => hσ 44 _) 45 k)
      have gp : sw_gs (sw_rp σ 45 (σ2 45)) := fun p q => by
        unfold sw_rp
        split
        · exact gs2 45 q
        · exact hσ p q
      have Jp : sw_J N (sw_rp σ 45 (σ2 45)) (sw_rp σ 45 (σ2 45)) := sw_J_cong J gp gp hf (fun p q z1 z2 z3 z4 => if_neg (by omega)) (fun p q z1 z2 z3 z4 z5 z6 => if_neg z6)
      have hm : ∀ q, σ2 44 q = (if 60 * 2 + j.toNat ≤ q ∧ q < 60 * 2 + j.toNat + m.toNat then σ 16 (i.toNat + (q - (60 * 2 + j.toNat))) else σ 44 q) := fun q => by
        rw [← n3]
        unfold sw_pg
        by_cases zz : 60 * 2 + j.toNat ≤ q ∧ q < 60 * 2 + j.toNat + m.toNat
        · rw [if_pos (by omega), if_pos zz, sw_pf_in _ 45 _ (by omega), show (60 * (2 : Int) + j).toNat = 60 * 2 + j.toNat by omega]
          rw [show (60 * (0 : Int) + i + ((q - (60 * 2 + j.toNat) : Nat) : Int)).toNat = 60 * 0 + (i.toNat + (q - (60 * 2 + j.toNat))) by omega]
          exact x6 _ (by omega)
        · rw [if_neg (by omega), if_neg zz, sw_pf_row _ _ _ (by decide), k44]
      have hc : ∀ q, σ2 20 q = (if j.toNat ≤ q ∧ q < j.toNat + m.toNat then σ 16 (i.toNat + (q - j.toNat)) else σ 20 q) := fun q => by
        rw [← n3, sw_pg_row _ _ _ _ (by decide), sw_pf_row _ _ _ (by decide), ← h3]
        unfold sw_cp
        by_cases zz : j.toNat ≤ q ∧ q < j.toNat + m.toNat
        · rw [if_pos ⟨rfl, zz⟩, if_pos zz]
        · rw [if_neg (fun y => zz y.2), if_neg zz]
      refine ⟨_, h2, n2, sw_J_mono (N := N) (by omega) (sw_J_it2 Jp gs2 (fun p q z1 z2 => ?_) (fun q hq => ?_) (fun q hq => ?_))⟩
      · unfold sw_rp
        by_cases zz : p = 45
        · rw [if_pos zz, zz]
        · rw [if_neg zz, ← n3, sw_pg_row _ _ _ _ z2, sw_pf_row _ _ _ zz, ← h3]
          unfold sw_cp
          rw [if_neg (fun y => z1 y.1)]
      · rw [hm, hc]
        by_cases zz : j.toNat ≤ q ∧ q < j.toNat + m.toNat
        · rw [if_pos zz, if_pos (by omega), show 60 * 2 + q - (60 * 2 + j.toNat) = q - j.toNat by omega]
        · rw [if_neg zz, if_neg (by omega)]; exact y6 q hq
      · rw [hm, if_neg (by omega)]
        rfl
theorem st_copy03 (N : Int) (hN : 0 ≤ N ∧ N ≤ 900000) (σ : sw_S) (J : sw_J N σ σ) (i j m : Int) (gi : sw_g i) (gj : sw_g j) (gm : sw_g m) : sw_St M_X7_copy M_X8_copy [.inl 0, .inl i, .inl 3, .inl j, .inl m] N σ := by
  obtain ⟨⟨c, g0, w0, z0⟩, r0, l0, b0, s0⟩ := id J
  obtain ⟨hσ, hD, hV, hL, hpl, hspd, hbr, her, hmg, h61, h514, h513, h59, hro⟩ := id c
  obtain ⟨e0, e1, e10, e11, e12, e16, e17, e18, e19, e20, e32, e33, e39, er⟩ := id w0
  obtain ⟨e3, hz, hzz, hlm⟩ := id z0
  obtain ⟨hA, e2, hf, ⟨e7, hst, hsp⟩, e13⟩ := id r0
  obtain ⟨⟨el0, hl0⟩, ⟨el1, hl1⟩, ⟨ewt, hwt⟩, ⟨ekp, hkp⟩⟩ := id l0
  obtain ⟨efi, hsh⟩ := id s0
  obtain ⟨t0, t1, t2, t3⟩ := id hsh
  obtain ⟨x1, x2, x3, x4, x5, x6⟩ := id t0
  obtain ⟨y1, y2, y3, y4, y5, y6⟩ := id t3
  have ts : (0 : Int).toNat = 0 := rfl
  have tt : (3 : Int).toNat = 3 := rfl
  have hz4 : ∀ j : Nat, j < 4 → 0 ≤ σ 43 j ∧ σ 43 j ≤ 60 := fun j hj => by
    rcases (by omega : j = 0 ∨ j = 1 ∨ j = 2 ∨ j = 3) with rfl | rfl | rfl | rfl
    · rw [t0.2.2.2.1]; exact t0.2.2.2.2.1
    · rw [t1.2.2.2.1]; exact t1.2.2.2.2.1
    · rw [t2.2.2.2.1]; exact t2.2.2.2.2.1
    · rw [t3.2.2.2.1]; exact t3.2.2.2.2.1
  refine ⟨_, cc_copy03 σ hσ x5.1 x5.2 y5.1 y5.2 i j m gi gj gm, fun r1 σ1 q1 => ?_⟩
  rcases q1 with ⟨h1, h2, h3⟩ | ⟨h1, h2, h3⟩ | ⟨h1, h2, h3⟩ | ⟨h1, h2, h3⟩
  · have gs1 : sw_gs σ1 := by rw [← h3]; exact sw_gs_u hσ 0 9 (by decide)
    have k41 : σ1 41 = σ 41 := by subst h3; rfl
    have k42 : σ1 42 = σ 42 := by subst h3; rfl
    have k43 : σ1 43 = σ 43 := by subst h3; rfl
    have k44 : σ1 44 = σ 44 := by subst h3; rfl
    refine ⟨_, mm_copy σ1 gs1 0 i 3 j m (by decide) gi (by decide) gj gm (by rw [k43]; exact hz4), fun r2 σ2 q2 => ?_⟩
    rw [ts] at q2
    rw [tt] at q2
    rw [k41, k42, k43, k44, x2, x4] at q2
    rw [y2, y4] at q2
    rcases q2 with ⟨n1, n2, n3⟩ | ⟨n1, n2, n3⟩ | ⟨n1, n2, n3⟩ | ⟨n1, n2, n3⟩ | ⟨n1, n2, n3⟩
    · exfalso; omega
    · subst h3; subst n3; exact ⟨_, h2, n2, sw_J_mono (N := N) (by omega) ⟨⟨⟨(sw_gs_u (sw_gs_u hσ 0 9 (by decide)) 26 39 (by decide)), hD, hV, hL, hpl, hspd, hbr, her, hmg, h61, h514, h513, h59, hro⟩, (sw_gs_u (sw_gs_u hσ 0 9 (by decide)) 26 39 (by decide)), ⟨e0, e1, e10, e11, e12, e16, e17, e18, e19, e20, e32, e33, e39, er⟩, ⟨e3, hz, hzz, hlm⟩⟩, ⟨hA, e2, hf, ⟨e7, hst, hsp⟩, e13⟩, ⟨⟨el0, hl0⟩, ⟨el1, hl1⟩, ⟨ewt, hwt⟩, ⟨ekp, hkp⟩⟩, b0, ⟨rfl, hsh⟩⟩⟩
    · exfalso; omega
    · exfalso; omega
    · exfalso; omega
  · have gs1 : sw_gs σ1 := by rw [← h3]; exact sw_gs_u hσ 0 9 (by decide)
    have k41 : σ1 41 = σ 41 := by subst h3; rfl
    have k42 : σ1 42 = σ 42 := by subst h3; rfl
    have k43 : σ1 43 = σ 43 := by subst h3; rfl
    have k44 : σ1 44 = σ 44 := by subst h3; rfl
    refine ⟨_, mm_copy σ1 gs1 0 i 3 j m (by decide) gi (by decide) gj gm (by rw [k43]; exact hz4), fun r2 σ2 q2 => ?_⟩
    rw [ts] at q2
    rw [tt] at q2
    rw [k41, k42, k43, k44, x2, x4] at q2
    rw [y2, y4] at q2
    rcases q2 with ⟨n1, n2, n3⟩ | ⟨n1, n2, n3⟩ | ⟨n1, n2, n3⟩ | ⟨n1, n2, n3⟩ | ⟨n1, n2, n3⟩
    · exfalso; omega
    · exfalso; omega
    · subst h3; subst n3; exact ⟨_, h2, n2, sw_J_mono (N := N) (by omega) ⟨⟨⟨(sw_gs_u (sw_gs_u hσ 0 9 (by decide)) 26 39 (by decide)), hD, hV, hL, hpl, hspd, hbr, her, hmg, h61, h514, h513, h59, hro⟩, (sw_gs_u (sw_gs_u hσ 0 9 (by decide)) 26 39 (by decide)), ⟨e0, e1, e10, e11, e12, e16, e17, e18, e19, e20, e32, e33, e39, er⟩, ⟨e3, hz, hzz, hlm⟩⟩, ⟨hA, e2, hf, ⟨e7, hst, hsp⟩, e13⟩, ⟨⟨el0, hl0⟩, ⟨el1, hl1⟩, ⟨ewt, hwt⟩, ⟨ekp, hkp⟩⟩, b0, ⟨rfl, hsh⟩⟩⟩
    · exfalso; omega
    · exfalso; omega
  · have gs1 : sw_gs σ1 := by rw [← h3]; exact sw_gs_u hσ 0 9 (by decide)
    have k41 : σ1 41 = σ 41 := by subst h3; rfl
    have k42 : σ1 42 = σ 42 := by subst h3; rfl
    have k43 : σ1 43 = σ 43 := by subst h3; rfl
    have k44 : σ1 44 = σ 44 := by subst h3; rfl
    refine ⟨_, mm_copy σ1 gs1 0 i 3 j m (by decide) gi (by decide) gj gm (by rw [k43]; exact hz4), fun r2 σ2 q2 => ?_⟩
    rw [ts] at q2
    rw [tt] at q2
    rw [k41, k42, k43, k44, x2, x4] at q2
    rw [y2, y4] at q2
    rcases q2 with ⟨n1, n2, n3⟩ | ⟨n1, n2, n3⟩ | ⟨n1, n2, n3⟩ | ⟨n1, n2, n3⟩ | ⟨n1, n2, n3⟩
    · exfalso; omega
    · exfalso; omega
    · exfalso; omega
    · subst h3; subst n3; exact ⟨_, h2, n2, sw_J_mono (N := N) (by omega) ⟨⟨⟨(sw_gs_u (sw_gs_u hσ 0 9 (by decide)) 26 39 (by decide)), hD, hV, hL, hpl, hspd, hbr, her, hmg, h61, h514, h513, h59, hro⟩, (sw_gs_u (sw_gs_u hσ 0 9 (by decide)) 26 39 (by decide)), ⟨e0, e1, e10, e11, e12, e16, e17, e18, e19, e20, e32, e33, e39, er⟩, ⟨e3, hz, hzz, hlm⟩⟩, ⟨hA, e2, hf, ⟨e7, hst, hsp⟩, e13⟩, ⟨⟨el0, hl0⟩, ⟨el1, hl1⟩, ⟨ewt, hwt⟩, ⟨ekp, hkp⟩⟩, b0, ⟨rfl, hsh⟩⟩⟩
    · exfalso; omega
  · have gs1 : sw_gs σ1 := by rw [← h3]; exact fun p q => by unfold sw_cp; split; exact hσ 16 _; exact hσ p q
    have k41 : σ1 41 = σ 41 := by subst h3; rfl
    have k42 : σ1 42 = σ 42 := by subst h3; rfl
    have k43 : σ1 43 = σ 43 := by subst h3; rfl
    have k44 : σ1 44 = σ 44 := by subst h3; rfl
    refine ⟨_, mm_copy σ1 gs1 0 i 3 j m (by decide) gi (by decide) gj gm (by rw [k43]; exact hz4), fun r2 σ2 q2 => ?_⟩
    rw [ts] at q2
    rw [tt] at q2
    rw [k41, k42, k43, k44, x2, x4] at q2
    rw [y2, y4] at q2
    rcases q2 with ⟨n1, n2, n3⟩ | ⟨n1, n2, n3⟩ | ⟨n1, n2, n3⟩ | ⟨n1, n2, n3⟩ | ⟨n1, n2, n3⟩
    · exfalso; omega
    · exfalso; omega
    · exfalso; omega
    · exfalso; omega
    · have gs2 : sw_gs σ2 := by rw [← n3]; exact sw_pg_gs (sw_pf_gs gs1 45 _ (fun k _ => hσ 44 _)) 44 _ _ (fun k _ => sw_pf_gs gs1 45 _ (fun k _ => hσ 44 _) 45 k)
      have gp : sw_gs (sw_rp σ 45 (σ2 45)) := fun p q => by
        unfold sw_rp
        split
        · exact gs2 45 q
        · exact hσ p q
      have Jp : sw_J N (sw_rp σ 45 (σ2 45)) (sw_rp σ 45 (σ2 45)) := sw_J_cong J gp gp hf (fun p q z1 z2 z3 z4 => if_neg (by omega)) (fun p q z1 z2 z3 z4 z5 z6 => if_neg z6)
      have hm : ∀ q, σ2 44 q = (if 60 * 3 + j.toNat ≤ q ∧ q < 60 * 3 + j.toNat + m.toNat then σ 16 (i.toNat + (q - (60 * 3 + j.toNat))) else σ 44 q) := fun q => by
        rw [← n3]
        unfold sw_pg
        by_cases zz : 60 * 3 + j.toNat ≤ q ∧ q < 60 * 3 + j.toNat + m.toNat
        · rw [if_pos (by omega), if_pos zz, sw_pf_in _ 45 _ (by omega), show (60 * (3 : Int) + j).toNat = 60 * 3 + j.toNat by omega]
          rw [show (60 * (0 : Int) + i + ((q - (60 * 3 + j.toNat) : Nat) : Int)).toNat = 60 * 0 + (i.toNat + (q - (60 * 3 + j.toNat))) by omega]
          exact x6 _ (by omega)
        · rw [if_neg (by omega), if_neg zz, sw_pf_row _ _ _ (by decide), k44]
      have hc : ∀ q, σ2 22 q = (if j.toNat ≤ q ∧ q < j.toNat + m.toNat then σ 16 (i.toNat + (q - j.toNat)) else σ 22 q) := fun q => by
        rw [← n3, sw_pg_row _ _ _ _ (by decide), sw_pf_row _ _ _ (by decide), ← h3]
        unfold sw_cp
        by_cases zz : j.toNat ≤ q ∧ q < j.toNat + m.toNat
        · rw [if_pos ⟨rfl, zz⟩, if_pos zz]
        · rw [if_neg (fun y => zz y.2), if_neg zz]
      refine ⟨_, h2, n2, sw_J_mono (N := N) (by omega) (sw_J_it3 Jp gs2 (fun p q z1 z2 => ?_) (fun q hq => ?_) (fun q hq => ?_))⟩
      · unfold sw_rp
        by_cases zz : p = 45
        · rw [if_pos zz, zz]
        · rw [if_neg zz, ← n3, sw_pg_row _ _ _ _ z2, sw_pf_row _ _ _ zz, ← h3]
          unfold sw_cp
          rw [if_neg (fun y => z1 y.1)]
      · rw [hm, hc]
        by_cases zz : j.toNat ≤ q ∧ q < j.toNat + m.toNat
        · rw [if_pos zz, if_pos (by omega), show 60 * 3 + q - (60 * 3 + j.toNat) = q - j.toNat by omega]
        · rw [if_neg zz, if_neg (by omega)]; exact y6 q hq
      · rw [hm, if_neg (by omega)]
        rfl
theorem st_copy10 (N : Int) (hN : 0 ≤ N ∧ N ≤ 900000) (σ : sw_S) (J : sw_J N σ σ) (i j m : Int) (gi : sw_g i) (gj : sw_g j) (gm : sw_g m) : sw_St M_X7_copy M_X8_copy [.inl 1, .inl i, .inl 0, .inl j, .inl m] N σ := by
  obtain ⟨⟨c, g0, w0, z0⟩, r0, l0, b0, s0⟩ := id J
  obtain ⟨hσ, hD, hV, hL, hpl, hspd, hbr, her, hmg, h61, h514, h513, h59, hro⟩ := id c
  obtain ⟨e0, e1, e10, e11, e12, e16, e17, e18, e19, e20, e32, e33, e39, er⟩ := id w0
  obtain ⟨e3, hz, hzz, hlm⟩ := id z0
  obtain ⟨hA, e2, hf, ⟨e7, hst, hsp⟩, e13⟩ := id r0
  obtain ⟨⟨el0, hl0⟩, ⟨el1, hl1⟩, ⟨ewt, hwt⟩, ⟨ekp, hkp⟩⟩ := id l0
  obtain ⟨efi, hsh⟩ := id s0
  obtain ⟨t0, t1, t2, t3⟩ := id hsh
  obtain ⟨x1, x2, x3, x4, x5, x6⟩ := id t1
  obtain ⟨y1, y2, y3, y4, y5, y6⟩ := id t0
  have ts : (1 : Int).toNat = 1 := rfl
  have tt : (0 : Int).toNat = 0 := rfl
  have hz4 : ∀ j : Nat, j < 4 → 0 ≤ σ 43 j ∧ σ 43 j ≤ 60 := fun j hj => by
    rcases (by omega : j = 0 ∨ j = 1 ∨ j = 2 ∨ j = 3) with rfl | rfl | rfl | rfl
    · rw [t0.2.2.2.1]; exact t0.2.2.2.2.1
    · rw [t1.2.2.2.1]; exact t1.2.2.2.2.1
    · rw [t2.2.2.2.1]; exact t2.2.2.2.2.1
    · rw [t3.2.2.2.1]; exact t3.2.2.2.2.1
  refine ⟨_, cc_copy10 σ hσ x5.1 x5.2 y5.1 y5.2 i j m gi gj gm, fun r1 σ1 q1 => ?_⟩
  rcases q1 with ⟨h1, h2, h3⟩ | ⟨h1, h2, h3⟩ | ⟨h1, h2, h3⟩ | ⟨h1, h2, h3⟩
  · have gs1 : sw_gs σ1 := by rw [← h3]; exact sw_gs_u hσ 0 9 (by decide)
    have k41 : σ1 41 = σ 41 := by subst h3; rfl
    have k42 : σ1 42 = σ 42 := by subst h3; rfl
    have k43 : σ1 43 = σ 43 := by subst h3; rfl
    have k44 : σ1 44 = σ 44 := by subst h3; rfl
    refine ⟨_, mm_copy σ1 gs1 1 i 0 j m (by decide) gi (by decide) gj gm (by rw [k43]; exact hz4), fun r2 σ2 q2 => ?_⟩
    rw [ts] at q2
    rw [tt] at q2
    rw [k41, k42, k43, k44, x2, x4] at q2
    rw [y2, y4] at q2
    rcases q2 with ⟨n1, n2, n3⟩ | ⟨n1, n2, n3⟩ | ⟨n1, n2, n3⟩ | ⟨n1, n2, n3⟩ | ⟨n1, n2, n3⟩
    · exfalso; omega
    · subst h3; subst n3; exact ⟨_, h2, n2, sw_J_mono (N := N) (by omega) ⟨⟨⟨(sw_gs_u (sw_gs_u hσ 0 9 (by decide)) 26 39 (by decide)), hD, hV, hL, hpl, hspd, hbr, her, hmg, h61, h514, h513, h59, hro⟩, (sw_gs_u (sw_gs_u hσ 0 9 (by decide)) 26 39 (by decide)), ⟨e0, e1, e10, e11, e12, e16, e17, e18, e19, e20, e32, e33, e39, er⟩, ⟨e3, hz, hzz, hlm⟩⟩, ⟨hA, e2, hf, ⟨e7, hst, hsp⟩, e13⟩, ⟨⟨el0, hl0⟩, ⟨el1, hl1⟩, ⟨ewt, hwt⟩, ⟨ekp, hkp⟩⟩, b0, ⟨rfl, hsh⟩⟩⟩
    · exfalso; omega
    · exfalso; omega
    · exfalso; omega
  · have gs1 : sw_gs σ1 := by rw [← h3]; exact sw_gs_u hσ 0 9 (by decide)
    have k41 : σ1 41 = σ 41 := by subst h3; rfl
    have k42 : σ1 42 = σ 42 := by subst h3; rfl
    have k43 : σ1 43 = σ 43 := by subst h3; rfl
    have k44 : σ1 44 = σ 44 := by subst h3; rfl
    refine ⟨_, mm_copy σ1 gs1 1 i 0 j m (by decide) gi (by decide) gj gm (by rw [k43]; exact hz4), fun r2 σ2 q2 => ?_⟩
    rw [ts] at q2
    rw [tt] at q2
    rw [k41, k42, k43, k44, x2, x4] at q2
    rw [y2, y4] at q2
    rcases q2 with ⟨n1, n2, n3⟩ | ⟨n1, n2, n3⟩ | ⟨n1, n2, n3⟩ | ⟨n1, n2, n3⟩ | ⟨n1, n2, n3⟩
    · exfalso; omega
    · exfalso; omega
    · subst h3; subst n3; exact ⟨_, h2, n2, sw_J_mono (N := N) (by omega) ⟨⟨⟨(sw_gs_u (sw_gs_u hσ 0 9 (by decide)) 26 39 (by decide)), hD, hV, hL, hpl, hspd, hbr, her, hmg, h61, h514, h513, h59, hro⟩, (sw_gs_u (sw_gs_u hσ 0 9 (by decide)) 26 39 (by decide)), ⟨e0, e1, e10, e11, e12, e16, e17, e18, e19, e20, e32, e33, e39, er⟩, ⟨e3, hz, hzz, hlm⟩⟩, ⟨hA, e2, hf, ⟨e7, hst, hsp⟩, e13⟩, ⟨⟨el0, hl0⟩, ⟨el1, hl1⟩, ⟨ewt, hwt⟩, ⟨ekp, hkp⟩⟩, b0, ⟨rfl, hsh⟩⟩⟩
    · exfalso; omega
    · exfalso; omega
  · have gs1 : sw_gs σ1 := by rw [← h3]; exact sw_gs_u hσ 0 9 (by decide)
    have k41 : σ1 41 = σ 41 := by subst h3; rfl
    have k42 : σ1 42 = σ 42 := by subst h3; rfl
    have k43 : σ1 43 = σ 43 := by subst h3; rfl
    have k44 : σ1 44 = σ 44 := by subst h3; rfl
    refine ⟨_, mm_copy σ1 gs1 1 i 0 j m (by decide) gi (by decide) gj gm (by rw [k43]; exact hz4), fun r2 σ2 q2 => ?_⟩
    rw [ts] at q2
    rw [tt] at q2
    rw [k41, k42, k43, k44, x2, x4] at q2
    rw [y2, y4] at q2
    rcases q2 with ⟨n1, n2, n3⟩ | ⟨n1, n2, n3⟩ | ⟨n1, n2, n3⟩ | ⟨n1, n2, n3⟩ | ⟨n1, n2, n3⟩
    · exfalso; omega
    · exfalso; omega
    · exfalso; omega
    · subst h3; subst n3; exact ⟨_, h2, n2, sw_J_mono (N := N) (by omega) ⟨⟨⟨(sw_gs_u (sw_gs_u hσ 0 9 (by decide)) 26 39 (by decide)), hD, hV, hL, hpl, hspd, hbr, her, hmg, h61, h514, h513, h59, hro⟩, (sw_gs_u (sw_gs_u hσ 0 9 (by decide)) 26 39 (by decide)), ⟨e0, e1, e10, e11, e12, e16, e17, e18, e19, e20, e32, e33, e39, er⟩, ⟨e3, hz, hzz, hlm⟩⟩, ⟨hA, e2, hf, ⟨e7, hst, hsp⟩, e13⟩, ⟨⟨el0, hl0⟩, ⟨el1, hl1⟩, ⟨ewt, hwt⟩, ⟨ekp, hkp⟩⟩, b0, ⟨rfl, hsh⟩⟩⟩
    · exfalso; omega
  · have gs1 : sw_gs σ1 := by rw [← h3]; exact fun p q => by unfold sw_cp; split; exact hσ 18 _; exact hσ p q
    have k41 : σ1 41 = σ 41 := by subst h3; rfl
    have k42 : σ1 42 = σ 42 := by subst h3; rfl
    have k43 : σ1 43 = σ 43 := by subst h3; rfl
    have k44 : σ1 44 = σ 44 := by subst h3; rfl
    refine ⟨_, mm_copy σ1 gs1 1 i 0 j m (by decide) gi (by decide) gj gm (by rw [k43]; exact hz4), fun r2 σ2 q2 => ?_⟩
    rw [ts] at q2
    rw [tt] at q2
    rw [k41, k42, k43, k44, x2, x4] at q2
    rw [y2, y4] at q2
    rcases q2 with ⟨n1, n2, n3⟩ | ⟨n1, n2, n3⟩ | ⟨n1, n2, n3⟩ | ⟨n1, n2, n3⟩ | ⟨n1, n2, n3⟩
    · exfalso; omega
    · exfalso; omega
    · exfalso; omega
    · exfalso; omega
    · have gs2 : sw_gs σ2 := by rw [← n3]; exact sw_pg_gs (sw_pf_gs gs1 45 _ (fun k _ => hσ 44 _)) 44 _ _ (fun k _ => sw_pf_gs gs1 45 _ (fun k _ => hσ 44 _) 45 k)
      have gp : sw_gs (sw_rp σ 45 (σ2 45)) := fun p q => by
        unfold sw_rp
        split
        · exact gs2 45 q
        · exact hσ p q
      have Jp : sw_J N (sw_rp σ 45 (σ2 45)) (sw_rp σ 45 (σ2 45)) := sw_J_cong J gp gp hf (fun p q z1 z2 z3 z4 => if_neg (by omega)) (fun p q z1 z2 z3 z4 z5 z6 => if_neg z6)
      have hm : ∀ q, σ2 44 q = (if 60 * 0 + j.toNat ≤ q ∧ q < 60 * 0 + j.toNat + m.toNat then σ 18 (i.toNat + (q - (60 * 0 + j.toNat))) else σ 44 q) := fun q => by
        rw [← n3]
        unfold sw_pg
        by_cases zz : 60 * 0 + j.toNat ≤ q ∧ q < 60 * 0 + j.toNat + m.toNat
        · rw [if_pos (by omega), if_pos zz, sw_pf_in _ 45 _ (by omega), show (60 * (0 : Int) + j).toNat = 60 * 0 + j.toNat by omega]
          rw [show (60 * (1 : Int) + i + ((q - (60 * 0 + j.toNat) : Nat) : Int)).toNat = 60 * 1 + (i.toNat + (q - (60 * 0 + j.toNat))) by omega]
          exact x6 _ (by omega)
        · rw [if_neg (by omega), if_neg zz, sw_pf_row _ _ _ (by decide), k44]
      have hc : ∀ q, σ2 16 q = (if j.toNat ≤ q ∧ q < j.toNat + m.toNat then σ 18 (i.toNat + (q - j.toNat)) else σ 16 q) := fun q => by
        rw [← n3, sw_pg_row _ _ _ _ (by decide), sw_pf_row _ _ _ (by decide), ← h3]
        unfold sw_cp
        by_cases zz : j.toNat ≤ q ∧ q < j.toNat + m.toNat
        · rw [if_pos ⟨rfl, zz⟩, if_pos zz]
        · rw [if_neg (fun y => zz y.2), if_neg zz]
      refine ⟨_, h2, n2, sw_J_mono (N := N) (by omega) (sw_J_it0 Jp gs2 (fun p q z1 z2 => ?_) (fun q hq => ?_) (fun q hq => ?_))⟩
      · unfold sw_rp
        by_cases zz : p = 45
        · rw [if_pos zz, zz]
        · rw [if_neg zz, ← n3, sw_pg_row _ _ _ _ z2, sw_pf_row _ _ _ zz, ← h3]
          unfold sw_cp
          rw [if_neg (fun y => z1 y.1)]
      · rw [hm, hc]
        by_cases zz : j.toNat ≤ q ∧ q < j.toNat + m.toNat
        · rw [if_pos zz, if_pos (by omega), show 60 * 0 + q - (60 * 0 + j.toNat) = q - j.toNat by omega]
        · rw [if_neg zz, if_neg (by omega)]; exact y6 q hq
      · rw [hm, if_neg (by omega)]
        rfl
theorem st_copy11 (N : Int) (hN : 0 ≤ N ∧ N ≤ 900000) (σ : sw_S) (J : sw_J N σ σ) (i j m : Int) (gi : sw_g i) (gj : sw_g j) (gm : sw_g m) : sw_St M_X7_copy M_X8_copy [.inl 1, .inl i, .inl 1, .inl j, .inl m] N σ := by
  obtain ⟨⟨c, g0, w0, z0⟩, r0, l0, b0, s0⟩ := id J
  obtain ⟨hσ, hD, hV, hL, hpl, hspd, hbr, her, hmg, h61, h514, h513, h59, hro⟩ := id c
  obtain ⟨e0, e1, e10, e11, e12, e16, e17, e18, e19, e20, e32, e33, e39, er⟩ := id w0
  obtain ⟨e3, hz, hzz, hlm⟩ := id z0
  obtain ⟨hA, e2, hf, ⟨e7, hst, hsp⟩, e13⟩ := id r0
  obtain ⟨⟨el0, hl0⟩, ⟨el1, hl1⟩, ⟨ewt, hwt⟩, ⟨ekp, hkp⟩⟩ := id l0
  obtain ⟨efi, hsh⟩ := id s0
  obtain ⟨t0, t1, t2, t3⟩ := id hsh
  obtain ⟨x1, x2, x3, x4, x5, x6⟩ := id t1
  obtain ⟨y1, y2, y3, y4, y5, y6⟩ := id t1
  have ts : (1 : Int).toNat = 1 := rfl
  have tt : (1 : Int).toNat = 1 := rfl
  have hz4 : ∀ j : Nat, j < 4 → 0 ≤ σ 43 j ∧ σ 43 j ≤ 60 := fun j hj => by
    rcases (by omega : j = 0 ∨ j = 1 ∨ j = 2 ∨ j = 3) with rfl | rfl | rfl | rfl
    · rw [t0.2.2.2.1]; exact t0.2.2.2.2.1
    · rw [t1.2.2.2.1]; exact t1.2.2.2.2.1
    · rw [t2.2.2.2.1]; exact t2.2.2.2.2.1
    · rw [t3.2.2.2.1]; exact t3.2.2.2.2.1
  refine ⟨_, cc_copy11 σ hσ x5.1 x5.2 y5.1 y5.2 i j m gi gj gm, fun r1 σ1 q1 => ?_⟩
  rcases q1 with ⟨h1, h2, h3⟩ | ⟨h1, h2, h3⟩ | ⟨h1, h2, h3⟩ | ⟨h1, h2, h3⟩
  · have gs1 : sw_gs σ1 := by rw [← h3]; exact sw_gs_u hσ 0 9 (by decide)
    have k41 : σ1 41 = σ 41 := by subst h3; rfl
    have k42 : σ1 42 = σ 42 := by subst h3; rfl
    have k43 : σ1 43 = σ 43 := by subst h3; rfl
    have k44 : σ1 44 = σ 44 := by subst h3; rfl
    refine ⟨_, mm_copy σ1 gs1 1 i 1 j m (by decide) gi (by decide) gj gm (by rw [k43]; exact hz4), fun r2 σ2 q2 => ?_⟩
    rw [ts] at q2
    rw [k41, k42, k43, k44, x2, x4] at q2
    rcases q2 with ⟨n1, n2, n3⟩ | ⟨n1, n2, n3⟩ | ⟨n1, n2, n3⟩ | ⟨n1, n2, n3⟩ | ⟨n1, n2, n3⟩
    · exfalso; omega
    · subst h3; subst n3; exact ⟨_, h2, n2, sw_J_mono (N := N) (by omega) ⟨⟨⟨(sw_gs_u (sw_gs_u hσ 0 9 (by decide)) 26 39 (by decide)), hD, hV, hL, hpl, hspd, hbr, her, hmg, h61, h514, h513, h59, hro⟩, (sw_gs_u (sw_gs_u hσ 0 9 (by decide)) 26 39 (by decide)), ⟨e0, e1, e10, e11, e12, e16, e17, e18, e19, e20, e32, e33, e39, er⟩, ⟨e3, hz, hzz, hlm⟩⟩, ⟨hA, e2, hf, ⟨e7, hst, hsp⟩, e13⟩, ⟨⟨el0, hl0⟩, ⟨el1, hl1⟩, ⟨ewt, hwt⟩, ⟨ekp, hkp⟩⟩, b0, ⟨rfl, hsh⟩⟩⟩
    · exfalso; omega
    · exfalso; omega
    · exfalso; omega
  · have gs1 : sw_gs σ1 := by rw [← h3]; exact sw_gs_u hσ 0 9 (by decide)
    have k41 : σ1 41 = σ 41 := by subst h3; rfl
    have k42 : σ1 42 = σ 42 := by subst h3; rfl
    have k43 : σ1 43 = σ 43 := by subst h3; rfl
    have k44 : σ1 44 = σ 44 := by subst h3; rfl
    refine ⟨_, mm_copy σ1 gs1 1 i 1 j m (by decide) gi (by decide) gj gm (by rw [k43]; exact hz4), fun r2 σ2 q2 => ?_⟩
    rw [ts] at q2
    rw [k41, k42, k43, k44, x2, x4] at q2
    rcases q2 with ⟨n1, n2, n3⟩ | ⟨n1, n2, n3⟩ | ⟨n1, n2, n3⟩ | ⟨n1, n2, n3⟩ | ⟨n1, n2, n3⟩
    · exfalso; omega
    · exfalso; omega
    · subst h3; subst n3; exact ⟨_, h2, n2, sw_J_mono (N := N) (by omega) ⟨⟨⟨(sw_gs_u (sw_gs_u hσ 0 9 (by decide)) 26 39 (by decide)), hD, hV, hL, hpl, hspd, hbr, her, hmg, h61, h514, h513, h59, hro⟩, (sw_gs_u (sw_gs_u hσ 0 9 (by decide)) 26 39 (by decide)), ⟨e0, e1, e10, e11, e12, e16, e17, e18, e19, e20, e32, e33, e39, er⟩, ⟨e3, hz, hzz, hlm⟩⟩, ⟨hA, e2, hf, ⟨e7, hst, hsp⟩, e13⟩, ⟨⟨el0, hl0⟩, ⟨el1, hl1⟩, ⟨ewt, hwt⟩, ⟨ekp, hkp⟩⟩, b0, ⟨rfl, hsh⟩⟩⟩
    · exfalso; omega
    · exfalso; omega
  · have gs1 : sw_gs σ1 := by rw [← h3]; exact sw_gs_u hσ 0 9 (by decide)
    have k41 : σ1 41 = σ 41 := by subst h3; rfl
    have k42 : σ1 42 = σ 42 := by subst h3; rfl
    have k43 : σ1 43 = σ 43 := by subst h3; rfl
    have k44 : σ1 44 = σ 44 := by subst h3; rfl
    refine ⟨_, mm_copy σ1 gs1 1 i 1 j m (by decide) gi (by decide) gj gm (by rw [k43]; exact hz4), fun r2 σ2 q2 => ?_⟩
    rw [ts] at q2
    rw [k41, k42, k43, k44, x2, x4] at q2
    rcases q2 with ⟨n1, n2, n3⟩ | ⟨n1, n2, n3⟩ | ⟨n1, n2, n3⟩ | ⟨n1, n2, n3⟩ | ⟨n1, n2, n3⟩
    · exfalso; omega
    · exfalso; omega
    · exfalso; omega
    · subst h3; subst n3; exact ⟨_, h2, n2, sw_J_mono (N := N) (by omega) ⟨⟨⟨(sw_gs_u (sw_gs_u hσ 0 9 (by decide)) 26 39 (by decide)), hD, hV, hL, hpl, hspd, hbr, her, hmg, h61, h514, h513, h59, hro⟩, (sw_gs_u (sw_gs_u hσ 0 9 (by decide)) 26 39 (by decide)), ⟨e0, e1, e10, e11, e12, e16, e17, e18, e19, e20, e32, e33, e39, er⟩, ⟨e3, hz, hzz, hlm⟩⟩, ⟨hA, e2, hf, ⟨e7, hst, hsp⟩, e13⟩, ⟨⟨el0, hl0⟩, ⟨el1, hl1⟩, ⟨ewt, hwt⟩, ⟨ekp, hkp⟩⟩, b0, ⟨rfl, hsh⟩⟩⟩
    · exfalso; omega
  · have gs1 : sw_gs σ1 := by rw [← h3]; exact fun p q => by unfold sw_cp; split; exact hσ 18 _; exact hσ p q
    have k41 : σ1 41 = σ 41 := by subst h3; rfl
    have k42 : σ1 42 = σ 42 := by subst h3; rfl
    have k43 : σ1 43 = σ 43 := by subst h3; rfl
    have k44 : σ1 44 = σ 44 := by subst h3; rfl
    refine ⟨_, mm_copy σ1 gs1 1 i 1 j m (by decide) gi (by decide) gj gm (by rw [k43]; exact hz4), fun r2 σ2 q2 => ?_⟩
    rw [ts] at q2
    rw [k41, k42, k43, k44, x2, x4] at q2
    rcases q2 with ⟨n1, n2, n3⟩ | ⟨n1, n2, n3⟩ | ⟨n1, n2, n3⟩ | ⟨n1, n2, n3⟩ | ⟨n1, n2, n3⟩
    · exfalso; omega
    · exfalso; omega
    · exfalso; omega
    · exfalso; omega
    · have gs2 : sw_gs σ2 := by rw [← n3]; exact sw_pg_gs (sw_pf_gs gs1 45 _ (fun k _ => hσ 44 _)) 44 _ _ (fun k _ => sw_pf_gs gs1 45 _ (fun k _ => hσ 44 _) 45 k)
      have gp : sw_gs (sw_rp σ 45 (σ2 45)) := fun p q => by
        unfold sw_rp
        split
        · exact gs2 45 q
        · exact hσ p q
      have Jp : sw_J N (sw_rp σ 45 (σ2 45)) (sw_rp σ 45 (σ2 45)) := sw_J_cong J gp gp hf (fun p q z1 z2 z3 z4 => if_neg (by omega)) (fun p q z1 z2 z3 z4 z5 z6 => if_neg z6)
      have hm : ∀ q, σ2 44 q = (if 60 * 1 + j.toNat ≤ q ∧ q < 60 * 1 + j.toNat + m.toNat then σ 18 (i.toNat + (q - (60 * 1 + j.toNat))) else σ 44 q) := fun q => by
        rw [← n3]
        unfold sw_pg
        by_cases zz : 60 * 1 + j.toNat ≤ q ∧ q < 60 * 1 + j.toNat + m.toNat
        · rw [if_pos (by omega), if_pos zz, sw_pf_in _ 45 _ (by omega), show (60 * (1 : Int) + j).toNat = 60 * 1 + j.toNat by omega]
          rw [show (60 * (1 : Int) + i + ((q - (60 * 1 + j.toNat) : Nat) : Int)).toNat = 60 * 1 + (i.toNat + (q - (60 * 1 + j.toNat))) by omega]
          exact x6 _ (by omega)
        · rw [if_neg (by omega), if_neg zz, sw_pf_row _ _ _ (by decide), k44]
      have hc : ∀ q, σ2 18 q = (if j.toNat ≤ q ∧ q < j.toNat + m.toNat then σ 18 (i.toNat + (q - j.toNat)) else σ 18 q) := fun q => by
        rw [← n3, sw_pg_row _ _ _ _ (by decide), sw_pf_row _ _ _ (by decide), ← h3]
        unfold sw_cp
        by_cases zz : j.toNat ≤ q ∧ q < j.toNat + m.toNat
        · rw [if_pos ⟨rfl, zz⟩, if_pos zz]
        · rw [if_neg (fun y => zz y.2), if_neg zz]
      refine ⟨_, h2, n2, sw_J_mono (N := N) (by omega) (sw_J_it1 Jp gs2 (fun p q z1 z2 => ?_) (fun q hq => ?_) (fun q hq => ?_))⟩
      · unfold sw_rp
        by_cases zz : p = 45
        · rw [if_pos zz, zz]
        · rw [if_neg zz, ← n3, sw_pg_row _ _ _ _ z2, sw_pf_row _ _ _ zz, ← h3]
          unfold sw_cp
          rw [if_neg (fun y => z1 y.1)]
      · rw [hm, hc]
        by_cases zz : j.toNat ≤ q ∧ q < j.toNat + m.toNat
        · rw [if_pos zz, if_pos (by omega), show 60 * 1 + q - (60 * 1 + j.toNat) = q - j.toNat by omega]
        · rw [if_neg zz, if_neg (by omega)]; exact y6 q hq
      · rw [hm, if_neg (by omega)]
        rfl
theorem st_copy12 (N : Int) (hN : 0 ≤ N ∧ N ≤ 900000) (σ : sw_S) (J : sw_J N σ σ) (i j m : Int) (gi : sw_g i) (gj : sw_g j) (gm : sw_g m) : sw_St M_X7_copy M_X8_copy [.inl 1, .inl i, .inl 2, .inl j, .inl m] N σ := by
  obtain ⟨⟨c, g0, w0, z0⟩, r0, l0, b0, s0⟩ := id J
  obtain ⟨hσ, hD, hV, hL, hpl, hspd, hbr, her, hmg, h61, h514, h513, h59, hro⟩ := id c
  obtain ⟨e0, e1, e10, e11, e12, e16, e17, e18, e19, e20, e32, e33, e39, er⟩ := id w0
  obtain ⟨e3, hz, hzz, hlm⟩ := id z0
  obtain ⟨hA, e2, hf, ⟨e7, hst, hsp⟩, e13⟩ := id r0
  obtain ⟨⟨el0, hl0⟩, ⟨el1, hl1⟩, ⟨ewt, hwt⟩, ⟨ekp, hkp⟩⟩ := id l0
  obtain ⟨efi, hsh⟩ := id s0
  obtain ⟨t0, t1, t2, t3⟩ := id hsh
  obtain ⟨x1, x2, x3, x4, x5, x6⟩ := id t1
  obtain ⟨y1, y2, y3, y4, y5, y6⟩ := id t2
  have ts : (1 : Int).toNat = 1 := rfl
  have tt : (2 : Int).toNat = 2 := rfl
  have hz4 : ∀ j : Nat, j < 4 → 0 ≤ σ 43 j ∧ σ 43 j ≤ 60 := fun j hj => by
    rcases (by omega : j = 0 ∨ j = 1 ∨ j = 2 ∨ j = 3) with rfl | rfl | rfl | rfl
    · rw [t0.2.2.2.1]; exact t0.2.2.2.2.1
    · rw [t1.2.2.2.1]; exact t1.2.2.2.2.1
    · rw [t2.2.2.2.1]; exact t2.2.2.2.2.1
    · rw [t3.2.2.2.1]; exact t3.2.2.2.2.1
  refine ⟨_, cc_copy12 σ hσ x5.1 x5.2 y5.1 y5.2 i j m gi gj gm, fun r1 σ1 q1 => ?_⟩
  rcases q1 with ⟨h1, h2, h3⟩ | ⟨h1, h2, h3⟩ | ⟨h1, h2, h3⟩ | ⟨h1, h2, h3⟩
  · have gs1 : sw_gs σ1 := by rw [← h3]; exact sw_gs_u hσ 0 9 (by decide)
    have k41 : σ1 41 = σ 41 := by subst h3; rfl
    have k42 : σ1 42 = σ 42 := by subst h3; rfl
    have k43 : σ1 43 = σ 43 := by subst h3; rfl
    have k44 : σ1 44 = σ 44 := by subst h3; rfl
    refine ⟨_, mm_copy σ1 gs1 1 i 2 j m (by decide) gi (by decide) gj gm (by rw [k43]; exact hz4), fun r2 σ2 q2 => ?_⟩
    rw [ts] at q2
    rw [tt] at q2
    rw [k41, k42, k43, k44, x2, x4] at q2
    rw [y2, y4] at q2
    rcases q2 with ⟨n1, n2, n3⟩ | ⟨n1, n2, n3⟩ | ⟨n1, n2, n3⟩ | ⟨n1, n2, n3⟩ | ⟨n1, n2, n3⟩
    · exfalso; omega
    · subst h3; subst n3; exact ⟨_, h2, n2, sw_J_mono (N := N) (by omega) ⟨⟨⟨(sw_gs_u (sw_gs_u hσ 0 9 (by decide)) 26 39 (by decide)), hD, hV, hL, hpl, hspd, hbr, her, hmg, h61, h514, h513, h59, hro⟩, (sw_gs_u (sw_gs_u hσ 0 9 (by decide)) 26 39 (by decide)), ⟨e0, e1, e10, e11, e12, e16, e17, e18, e19, e20, e32, e33, e39, er⟩, ⟨e3, hz, hzz, hlm⟩⟩, ⟨hA, e2, hf, ⟨e7, hst, hsp⟩, e13⟩, ⟨⟨el0, hl0⟩, ⟨el1, hl1⟩, ⟨ewt, hwt⟩, ⟨ekp, hkp⟩⟩, b0, ⟨rfl, hsh⟩⟩⟩
    · exfalso; omega
    · exfalso; omega
    · exfalso; omega
  · have gs1 : sw_gs σ1 := by rw [← h3]; exact sw_gs_u hσ 0 9 (by decide)
    have k41 : σ1 41 = σ 41 := by subst h3; rfl
    have k42 : σ1 42 = σ 42 := by subst h3; rfl
    have k43 : σ1 43 = σ 43 := by subst h3; rfl
    have k44 : σ1 44 = σ 44 := by subst h3; rfl
    refine ⟨_, mm_copy σ1 gs1 1 i 2 j m (by decide) gi (by decide) gj gm (by rw [k43]; exact hz4), fun r2 σ2 q2 => ?_⟩
    rw [ts] at q2
    rw [tt] at q2
    rw [k41, k42, k43, k44, x2, x4] at q2
    rw [y2, y4] at q2
    rcases q2 with ⟨n1, n2, n3⟩ | ⟨n1, n2, n3⟩ | ⟨n1, n2, n3⟩ | ⟨n1, n2, n3⟩ | ⟨n1, n2, n3⟩
    · exfalso; omega
    · exfalso; omega
    · subst h3; subst n3; exact ⟨_, h2, n2, sw_J_mono (N := N) (by omega) ⟨⟨⟨(sw_gs_u (sw_gs_u hσ 0 9 (by decide)) 26 39 (by decide)), hD, hV, hL, hpl, hspd, hbr, her, hmg, h61, h514, h513, h59, hro⟩, (sw_gs_u (sw_gs_u hσ 0 9 (by decide)) 26 39 (by decide)), ⟨e0, e1, e10, e11, e12, e16, e17, e18, e19, e20, e32, e33, e39, er⟩, ⟨e3, hz, hzz, hlm⟩⟩, ⟨hA, e2, hf, ⟨e7, hst, hsp⟩, e13⟩, ⟨⟨el0, hl0⟩, ⟨el1, hl1⟩, ⟨ewt, hwt⟩, ⟨ekp, hkp⟩⟩, b0, ⟨rfl, hsh⟩⟩⟩
    · exfalso; omega
    · exfalso; omega
  · have gs1 : sw_gs σ1 := by rw [← h3]; exact sw_gs_u hσ 0 9 (by decide)
    have k41 : σ1 41 = σ 41 := by subst h3; rfl
    have k42 : σ1 42 = σ 42 := by subst h3; rfl
    have k43 : σ1 43 = σ 43 := by subst h3; rfl
    have k44 : σ1 44 = σ 44 := by subst h3; rfl
    refine ⟨_, mm_copy σ1 gs1 1 i 2 j m (by decide) gi (by decide) gj gm (by rw [k43]; exact hz4), fun r2 σ2 q2 => ?_⟩
    rw [ts] at q2
    rw [tt] at q2
    rw [k41, k42, k43, k44, x2, x4] at q2
    rw [y2, y4] at q2
    rcases q2 with ⟨n1, n2, n3⟩ | ⟨n1, n2, n3⟩ | ⟨n1, n2, n3⟩ | ⟨n1, n2, n3⟩ | ⟨n1, n2, n3⟩
    · exfalso; omega
    · exfalso; omega
    · exfalso; omega
    · subst h3; subst n3; exact ⟨_, h2, n2, sw_J_mono (N := N) (by omega) ⟨⟨⟨(sw_gs_u (sw_gs_u hσ 0 9 (by decide)) 26 39 (by decide)), hD, hV, hL, hpl, hspd, hbr, her, hmg, h61, h514, h513, h59, hro⟩, (sw_gs_u (sw_gs_u hσ 0 9 (by decide)) 26 39 (by decide)), ⟨e0, e1, e10, e11, e12, e16, e17, e18, e19, e20, e32, e33, e39, er⟩, ⟨e3, hz, hzz, hlm⟩⟩, ⟨hA, e2, hf, ⟨e7, hst, hsp⟩, e13⟩, ⟨⟨el0, hl0⟩, ⟨el1, hl1⟩, ⟨ewt, hwt⟩, ⟨ekp, hkp⟩⟩, b0, ⟨rfl, hsh⟩⟩⟩
    · exfalso; omega
  · have gs1 : sw_gs σ1 := by rw [← h3]; exact fun p q => by unfold sw_cp; split; exact hσ 18 _; exact hσ p q
    have k41 : σ1 41 = σ 41 := by subst h3; rfl
    have k42 : σ1 42 = σ 42 := by subst h3; rfl
    have k43 : σ1 43 = σ 43 := by subst h3; rfl
    have k44 : σ1 44 = σ 44 := by subst h3; rfl
    refine ⟨_, mm_copy σ1 gs1 1 i 2 j m (by decide) gi (by decide) gj gm (by rw [k43]; exact hz4), fun r2 σ2 q2 => ?_⟩
    rw [ts] at q2
    rw [tt] at q2
    rw [k41, k42, k43, k44, x2, x4] at q2
    rw [y2, y4] at q2
    rcases q2 with ⟨n1, n2, n3⟩ | ⟨n1, n2, n3⟩ | ⟨n1, n2, n3⟩ | ⟨n1, n2, n3⟩ | ⟨n1, n2, n3⟩
    · exfalso; omega
    · exfalso; omega
    · exfalso; omega
    · exfalso; omega
    · have gs2 : sw_gs σ2 := by rw [← n3]; exact sw_pg_gs (sw_pf_gs gs1 45 _ (fun k _ => hσ 44 _)) 44 _ _ (fun k _ => sw_pf_gs gs1 45 _ (fun k _ => hσ 44 _) 45 k)
      have gp : sw_gs (sw_rp σ 45 (σ2 45)) := fun p q => by
        unfold sw_rp
        split
        · exact gs2 45 q
        · exact hσ p q
      have Jp : sw_J N (sw_rp σ 45 (σ2 45)) (sw_rp σ 45 (σ2 45)) := sw_J_cong J gp gp hf (fun p q z1 z2 z3 z4 => if_neg (by omega)) (fun p q z1 z2 z3 z4 z5 z6 => if_neg z6)
      have hm : ∀ q, σ2 44 q = (if 60 * 2 + j.toNat ≤ q ∧ q < 60 * 2 + j.toNat + m.toNat then σ 18 (i.toNat + (q - (60 * 2 + j.toNat))) else σ 44 q) := fun q => by
        rw [← n3]
        unfold sw_pg
        by_cases zz : 60 * 2 + j.toNat ≤ q ∧ q < 60 * 2 + j.toNat + m.toNat
        · rw [if_pos (by omega), if_pos zz, sw_pf_in _ 45 _ (by omega), show (60 * (2 : Int) + j).toNat = 60 * 2 + j.toNat by omega]
          rw [show (60 * (1 : Int) + i + ((q - (60 * 2 + j.toNat) : Nat) : Int)).toNat = 60 * 1 + (i.toNat + (q - (60 * 2 + j.toNat))) by omega]
          exact x6 _ (by omega)
        · rw [if_neg (by omega), if_neg zz, sw_pf_row _ _ _ (by decide), k44]
      have hc : ∀ q, σ2 20 q = (if j.toNat ≤ q ∧ q < j.toNat + m.toNat then σ 18 (i.toNat + (q - j.toNat)) else σ 20 q) := fun q => by
        rw [← n3, sw_pg_row _ _ _ _ (by decide), sw_pf_row _ _ _ (by decide), ← h3]
        unfold sw_cp
        by_cases zz : j.toNat ≤ q ∧ q < j.toNat + m.toNat
        · rw [if_pos ⟨rfl, zz⟩, if_pos zz]
        · rw [if_neg (fun y => zz y.2), if_neg zz]
      refine ⟨_, h2, n2, sw_J_mono (N := N) (by omega) (sw_J_it2 Jp gs2 (fun p q z1 z2 => ?_) (fun q hq => ?_) (fun q hq => ?_))⟩
      · unfold sw_rp
        by_cases zz : p = 45
        · rw [if_pos zz, zz]
        · rw [if_neg zz, ← n3, sw_pg_row _ _ _ _ z2, sw_pf_row _ _ _ zz, ← h3]
          unfold sw_cp
          rw [if_neg (fun y => z1 y.1)]
      · rw [hm, hc]
        by_cases zz : j.toNat ≤ q ∧ q < j.toNat + m.toNat
        · rw [if_pos zz, if_pos (by omega), show 60 * 2 + q - (60 * 2 + j.toNat) = q - j.toNat by omega]
        · rw [if_neg zz, if_neg (by omega)]; exact y6 q hq
      · rw [hm, if_neg (by omega)]
        rfl
theorem st_copy13 (N : Int) (hN : 0 ≤ N ∧ N ≤ 900000) (σ : sw_S) (J : sw_J N σ σ) (i j m : Int) (gi : sw_g i) (gj : sw_g j) (gm : sw_g m) : sw_St M_X7_copy M_X8_copy [.inl 1, .inl i, .inl 3, .inl j, .inl m] N σ := by
  obtain ⟨⟨c, g0, w0, z0⟩, r0, l0, b0, s0⟩ := id J
  obtain ⟨hσ, hD, hV, hL, hpl, hspd, hbr, her, hmg, h61, h514, h513, h59, hro⟩ := id c
  obtain ⟨e0, e1, e10, e11, e12, e16, e17, e18, e19, e20, e32, e33, e39, er⟩ := id w0
  obtain ⟨e3, hz, hzz, hlm⟩ := id z0
  obtain ⟨hA, e2, hf, ⟨e7, hst, hsp⟩, e13⟩ := id r0
  obtain ⟨⟨el0, hl0⟩, ⟨el1, hl1⟩, ⟨ewt, hwt⟩, ⟨ekp, hkp⟩⟩ := id l0
  obtain ⟨efi, hsh⟩ := id s0
  obtain ⟨t0, t1, t2, t3⟩ := id hsh
  obtain ⟨x1, x2, x3, x4, x5, x6⟩ := id t1
  obtain ⟨y1, y2, y3, y4, y5, y6⟩ := id t3
  have ts : (1 : Int).toNat = 1 := rfl
  have tt : (3 : Int).toNat = 3 := rfl
  have hz4 : ∀ j : Nat, j < 4 → 0 ≤ σ 43 j ∧ σ 43 j ≤ 60 := fun j hj => by
    rcases (by omega : j = 0 ∨ j = 1 ∨ j = 2 ∨ j = 3) with rfl | rfl | rfl | rfl
    · rw [t0.2.2.2.1]; exact t0.2.2.2.2.1
    · rw [t1.2.2.2.1]; exact t1.2.2.2.2.1
    · rw [t2.2.2.2.1]; exact t2.2.2.2.2.1
    · rw [t3.2.2.2.1]; exact t3.2.2.2.2.1
  refine ⟨_, cc_copy13 σ hσ x5.1 x5.2 y5.1 y5.2 i j m gi gj gm, fun r1 σ1 q1 => ?_⟩
  rcases q1 with ⟨h1, h2, h3⟩ | ⟨h1, h2, h3⟩ | ⟨h1, h2, h3⟩ | ⟨h1, h2, h3⟩
  · have gs1 : sw_gs σ1 := by rw [← h3]; exact sw_gs_u hσ 0 9 (by decide)
    have k41 : σ1 41 = σ 41 := by subst h3; rfl
    have k42 : σ1 42 = σ 42 := by subst h3; rfl
    have k43 : σ1 43 = σ 43 := by subst h3; rfl
    have k44 : σ1 44 = σ 44 := by subst h3; rfl
    refine ⟨_, mm_copy σ1 gs1 1 i 3 j m (by decide) gi (by decide) gj gm (by rw [k43]; exact hz4), fun r2 σ2 q2 => ?_⟩
    rw [ts] at q2
    rw [tt] at q2
    rw [k41, k42, k43, k44, x2, x4] at q2
    rw [y2, y4] at q2
    rcases q2 with ⟨n1, n2, n3⟩ | ⟨n1, n2, n3⟩ | ⟨n1, n2, n3⟩ | ⟨n1, n2, n3⟩ | ⟨n1, n2, n3⟩
    · exfalso; omega
    · subst h3; subst n3; exact ⟨_, h2, n2, sw_J_mono (N := N) (by omega) ⟨⟨⟨(sw_gs_u (sw_gs_u hσ 0 9 (by decide)) 26 39 (by decide)), hD, hV, hL, hpl, hspd, hbr, her, hmg, h61, h514, h513, h59, hro⟩, (sw_gs_u (sw_gs_u hσ 0 9 (by decide)) 26 39 (by decide)), ⟨e0, e1, e10, e11, e12, e16, e17, e18, e19, e20, e32, e33, e39, er⟩, ⟨e3, hz, hzz, hlm⟩⟩, ⟨hA, e2, hf, ⟨e7, hst, hsp⟩, e13⟩, ⟨⟨el0, hl0⟩, ⟨el1, hl1⟩, ⟨ewt, hwt⟩, ⟨ekp, hkp⟩⟩, b0, ⟨rfl, hsh⟩⟩⟩
    · exfalso; omega
    · exfalso; omega
    · exfalso; omega
  · have gs1 : sw_gs σ1 := by rw [← h3]; exact sw_gs_u hσ 0 9 (by decide)
    have k41 : σ1 41 = σ 41 := by subst h3; rfl
    have k42 : σ1 42 = σ 42 := by subst h3; rfl
    have k43 : σ1 43 = σ 43 := by subst h3; rfl
    have k44 : σ1 44 = σ 44 := by subst h3; rfl
    refine ⟨_, mm_copy σ1 gs1 1 i 3 j m (by decide) gi (by decide) gj gm (by rw [k43]; exact hz4), fun r2 σ2 q2 => ?_⟩
    rw [ts] at q2
    rw [tt] at q2
    rw [k41, k42, k43, k44, x2, x4] at q2
    rw [y2, y4] at q2
    rcases q2 with ⟨n1, n2, n3⟩ | ⟨n1, n2, n3⟩ | ⟨n1, n2, n3⟩ | ⟨n1, n2, n3⟩ | ⟨n1, n2, n3⟩
    · exfalso; omega
    · exfalso; omega
    · subst h3; subst n3; exact ⟨_, h2, n2, sw_J_mono (N := N) (by omega) ⟨⟨⟨(sw_gs_u (sw_gs_u hσ 0 9 (by decide)) 26 39 (by decide)), hD, hV, hL, hpl, hspd, hbr, her, hmg, h61, h514, h513, h59, hro⟩, (sw_gs_u (sw_gs_u hσ 0 9 (by decide)) 26 39 (by decide)), ⟨e0, e1, e10, e11, e12, e16, e17, e18, e19, e20, e32, e33, e39, er⟩, ⟨e3, hz, hzz, hlm⟩⟩, ⟨hA, e2, hf, ⟨e7, hst, hsp⟩, e13⟩, ⟨⟨el0, hl0⟩, ⟨el1, hl1⟩, ⟨ewt, hwt⟩, ⟨ekp, hkp⟩⟩, b0, ⟨rfl, hsh⟩⟩⟩
    · exfalso; omega
    · exfalso; omega
  · have gs1 : sw_gs σ1 := by rw [← h3]; exact sw_gs_u hσ 0 9 (by decide)
    have k41 : σ1 41 = σ 41 := by subst h3; rfl
    have k42 : σ1 42 = σ 42 := by subst h3; rfl
    have k43 : σ1 43 = σ 43 := by subst h3; rfl
    have k44 : σ1 44 = σ 44 := by subst h3; rfl
    refine ⟨_, mm_copy σ1 gs1 1 i 3 j m (by decide) gi (by decide) gj gm (by rw [k43]; exact hz4), fun r2 σ2 q2 => ?_⟩
    rw [ts] at q2
    rw [tt] at q2
    rw [k41, k42, k43, k44, x2, x4] at q2
    rw [y2, y4] at q2
    rcases q2 with ⟨n1, n2, n3⟩ | ⟨n1, n2, n3⟩ | ⟨n1, n2, n3⟩ | ⟨n1, n2, n3⟩ | ⟨n1, n2, n3⟩
    · exfalso; omega
    · exfalso; omega
    · exfalso; omega
    · subst h3; subst n3; exact ⟨_, h2, n2, sw_J_mono (N := N) (by omega) ⟨⟨⟨(sw_gs_u (sw_gs_u hσ 0 9 (by decide)) 26 39 (by decide)), hD, hV, hL, hpl, hspd, hbr, her, hmg, h61, h514, h513, h59, hro⟩, (sw_gs_u (sw_gs_u hσ 0 9 (by decide)) 26 39 (by decide)), ⟨e0, e1, e10, e11, e12, e16, e17, e18, e19, e20, e32, e33, e39, er⟩, ⟨e3, hz, hzz, hlm⟩⟩, ⟨hA, e2, hf, ⟨e7, hst, hsp⟩, e13⟩, ⟨⟨el0, hl0⟩, ⟨el1, hl1⟩, ⟨ewt, hwt⟩, ⟨ekp, hkp⟩⟩, b0, ⟨rfl, hsh⟩⟩⟩
    · exfalso; omega
  · have gs1 : sw_gs σ1 := by rw [← h3]; exact fun p q => by unfold sw_cp; split; exact hσ 18 _; exact hσ p q
    have k41 : σ1 41 = σ 41 := by subst h3; rfl
    have k42 : σ1 42 = σ 42 := by subst h3; rfl
    have k43 : σ1 43 = σ 43 := by subst h3; rfl
    have k44 : σ1 44 = σ 44 := by subst h3; rfl
    refine ⟨_, mm_copy σ1 gs1 1 i 3 j m (by decide) gi (by decide) gj gm (by rw [k43]; exact hz4), fun r2 σ2 q2 => ?_⟩
    rw [ts] at q2
    rw [tt] at q2
    rw [k41, k42, k43, k44, x2, x4] at q2
    rw [y2, y4] at q2
    rcases q2 with ⟨n1, n2, n3⟩ | ⟨n1, n2, n3⟩ | ⟨n1, n2, n3⟩ | ⟨n1, n2, n3⟩ | ⟨n1, n2, n3⟩
    · exfalso; omega
    · exfalso; omega
    · exfalso; omega
    · exfalso; omega
    · have gs2 : sw_gs σ2 := by rw [← n3]; exact sw_pg_gs (sw_pf_gs gs1 45 _ (fun k _ => hσ 44 _)) 44 _ _ (fun k _ => sw_pf_gs gs1 45 _ (fun k _ => hσ 44 _) 45 k)
      have gp : sw_gs (sw_rp σ 45 (σ2 45)) := fun p q => by
        unfold sw_rp
        split
        · exact gs2 45 q
        · exact hσ p q
      have Jp : sw_J N (sw_rp σ 45 (σ2 45)) (sw_rp σ 45 (σ2 45)) := sw_J_cong J gp gp hf (fun p q z1 z2 z3 z4 => if_neg (by omega)) (fun p q z1 z2 z3 z4 z5 z6 => if_neg z6)
      have hm : ∀ q, σ2 44 q = (if 60 * 3 + j.toNat ≤ q ∧ q < 60 * 3 + j.toNat + m.toNat then σ 18 (i.toNat + (q - (60 * 3 + j.toNat))) else σ 44 q) := fun q => by
        rw [← n3]
        unfold sw_pg
        by_cases zz : 60 * 3 + j.toNat ≤ q ∧ q < 60 * 3 + j.toNat + m.toNat
        · rw [if_pos (by omega), if_pos zz, sw_pf_in _ 45 _ (by omega), show (60 * (3 : Int) + j).toNat = 60 * 3 + j.toNat by omega]
          rw [show (60 * (1 : Int) + i + ((q - (60 * 3 + j.toNat) : Nat) : Int)).toNat = 60 * 1 + (i.toNat + (q - (60 * 3 + j.toNat))) by omega]
          exact x6 _ (by omega)
        · rw [if_neg (by omega), if_neg zz, sw_pf_row _ _ _ (by decide), k44]
      have hc : ∀ q, σ2 22 q = (if j.toNat ≤ q ∧ q < j.toNat + m.toNat then σ 18 (i.toNat + (q - j.toNat)) else σ 22 q) := fun q => by
        rw [← n3, sw_pg_row _ _ _ _ (by decide), sw_pf_row _ _ _ (by decide), ← h3]
        unfold sw_cp
        by_cases zz : j.toNat ≤ q ∧ q < j.toNat + m.toNat
        · rw [if_pos ⟨rfl, zz⟩, if_pos zz]
        · rw [if_neg (fun y => zz y.2), if_neg zz]
      refine ⟨_, h2, n2, sw_J_mono (N := N) (by omega) (sw_J_it3 Jp gs2 (fun p q z1 z2 => ?_) (fun q hq => ?_) (fun q hq => ?_))⟩
      · unfold sw_rp
        by_cases zz : p = 45
        · rw [if_pos zz, zz]
        · rw [if_neg zz, ← n3, sw_pg_row _ _ _ _ z2, sw_pf_row _ _ _ zz, ← h3]
          unfold sw_cp
          rw [if_neg (fun y => z1 y.1)]
      · rw [hm, hc]
        by_cases zz : j.toNat ≤ q ∧ q < j.toNat + m.toNat
        · rw [if_pos zz, if_pos (by omega), show 60 * 3 + q - (60 * 3 + j.toNat) = q - j.toNat by omega]
        · rw [if_neg zz, if_neg (by omega)]; exact y6 q hq
      · rw [hm, if_neg (by omega)]
        rfl
theorem st_copy20 (N : Int) (hN : 0 ≤ N ∧ N ≤ 900000) (σ : sw_S) (J : sw_J N σ σ) (i j m : Int) (gi : sw_g i) (gj : sw_g j) (gm : sw_g m) : sw_St M_X7_copy M_X8_copy [.inl 2, .inl i, .inl 0, .inl j, .inl m] N σ := by
  obtain ⟨⟨c, g0, w0, z0⟩, r0, l0, b0, s0⟩ := id J
  obtain ⟨hσ, hD, hV, hL, hpl, hspd, hbr, her, hmg, h61, h514, h513, h59, hro⟩ := id c
  obtain ⟨e0, e1, e10, e11, e12, e16, e17, e18, e19, e20, e32, e33, e39, er⟩ := id w0
  obtain ⟨e3, hz, hzz, hlm⟩ := id z0
  obtain ⟨hA, e2, hf, ⟨e7, hst, hsp⟩, e13⟩ := id r0
  obtain ⟨⟨el0, hl0⟩, ⟨el1, hl1⟩, ⟨ewt, hwt⟩, ⟨ekp, hkp⟩⟩ := id l0
  obtain ⟨efi, hsh⟩ := id s0
  obtain ⟨t0, t1, t2, t3⟩ := id hsh
  obtain ⟨x1, x2, x3, x4, x5, x6⟩ := id t2
  obtain ⟨y1, y2, y3, y4, y5, y6⟩ := id t0
  have ts : (2 : Int).toNat = 2 := rfl
  have tt : (0 : Int).toNat = 0 := rfl
  have hz4 : ∀ j : Nat, j < 4 → 0 ≤ σ 43 j ∧ σ 43 j ≤ 60 := fun j hj => by
    rcases (by omega : j = 0 ∨ j = 1 ∨ j = 2 ∨ j = 3) with rfl | rfl | rfl | rfl
    · rw [t0.2.2.2.1]; exact t0.2.2.2.2.1
    · rw [t1.2.2.2.1]; exact t1.2.2.2.2.1
    · rw [t2.2.2.2.1]; exact t2.2.2.2.2.1
    · rw [t3.2.2.2.1]; exact t3.2.2.2.2.1
  refine ⟨_, cc_copy20 σ hσ x5.1 x5.2 y5.1 y5.2 i j m gi gj gm, fun r1 σ1 q1 => ?_⟩
  rcases q1 with ⟨h1, h2, h3⟩ | ⟨h1, h2, h3⟩ | ⟨h1, h2, h3⟩ | ⟨h1, h2, h3⟩
  · have gs1 : sw_gs σ1 := by rw [← h3]; exact sw_gs_u hσ 0 9 (by decide)
    have k41 : σ1 41 = σ 41 := by subst h3; rfl
    have k42 : σ1 42 = σ 42 := by subst h3; rfl
    have k43 : σ1 43 = σ 43 := by subst h3; rfl
    have k44 : σ1 44 = σ 44 := by subst h3; rfl
    refine ⟨_, mm_copy σ1 gs1 2 i 0 j m (by decide) gi (by decide) gj gm (by rw [k43]; exact hz4), fun r2 σ2 q2 => ?_⟩
    rw [ts] at q2
    rw [tt] at q2
    rw [k41, k42, k43, k44, x2, x4] at q2
    rw [y2, y4] at q2
    rcases q2 with ⟨n1, n2, n3⟩ | ⟨n1, n2, n3⟩ | ⟨n1, n2, n3⟩ | ⟨n1, n2, n3⟩ | ⟨n1, n2, n3⟩
    · exfalso; omega
    · subst h3; subst n3; exact ⟨_, h2, n2, sw_J_mono (N := N) (by omega) ⟨⟨⟨(sw_gs_u (sw_gs_u hσ 0 9 (by decide)) 26 39 (by decide)), hD, hV, hL, hpl, hspd, hbr, her, hmg, h61, h514, h513, h59, hro⟩, (sw_gs_u (sw_gs_u hσ 0 9 (by decide)) 26 39 (by decide)), ⟨e0, e1, e10, e11, e12, e16, e17, e18, e19, e20, e32, e33, e39, er⟩, ⟨e3, hz, hzz, hlm⟩⟩, ⟨hA, e2, hf, ⟨e7, hst, hsp⟩, e13⟩, ⟨⟨el0, hl0⟩, ⟨el1, hl1⟩, ⟨ewt, hwt⟩, ⟨ekp, hkp⟩⟩, b0, ⟨rfl, hsh⟩⟩⟩
    · exfalso; omega
    · exfalso; omega
    · exfalso; omega
  · have gs1 : sw_gs σ1 := by rw [← h3]; exact sw_gs_u hσ 0 9 (by decide)
    have k41 : σ1 41 = σ 41 := by subst h3; rfl
    have k42 : σ1 42 = σ 42 := by subst h3; rfl
    have k43 : σ1 43 = σ 43 := by subst h3; rfl
    have k44 : σ1 44 = σ 44 := by subst h3; rfl
    refine ⟨_, mm_copy σ1 gs1 2 i 0 j m (by decide) gi (by decide) gj gm (by rw [k43]; exact hz4), fun r2 σ2 q2 => ?_⟩
    rw [ts] at q2
    rw [tt] at q2
    rw [k41, k42, k43, k44, x2, x4] at q2
    rw [y2, y4] at q2
    rcases q2 with ⟨n1, n2, n3⟩ | ⟨n1, n2, n3⟩ | ⟨n1, n2, n3⟩ | ⟨n1, n2, n3⟩ | ⟨n1, n2, n3⟩
    · exfalso; omega
    · exfalso; omega
    · subst h3; subst n3; exact ⟨_, h2, n2, sw_J_mono (N := N) (by omega) ⟨⟨⟨(sw_gs_u (sw_gs_u hσ 0 9 (by decide)) 26 39 (by decide)), hD, hV, hL, hpl, hspd, hbr, her, hmg, h61, h514, h513, h59, hro⟩, (sw_gs_u (sw_gs_u hσ 0 9 (by decide)) 26 39 (by decide)), ⟨e0, e1, e10, e11, e12, e16, e17, e18, e19, e20, e32, e33, e39, er⟩, ⟨e3, hz, hzz, hlm⟩⟩, ⟨hA, e2, hf, ⟨e7, hst, hsp⟩, e13⟩, ⟨⟨el0, hl0⟩, ⟨el1, hl1⟩, ⟨ewt, hwt⟩, ⟨ekp, hkp⟩⟩, b0, ⟨rfl, hsh⟩⟩⟩
    · exfalso; omega
    · exfalso; omega
  · have gs1 : sw_gs σ1 := by rw [← h3]; exact sw_gs_u hσ 0 9 (by decide)
    have k41 : σ1 41 = σ 41 := by subst h3; rfl
    have k42 : σ1 42 = σ 42 := by subst h3; rfl
    have k43 : σ1 43 = σ 43 := by subst h3; rfl
    have k44 : σ1 44 = σ 44 := by subst h3; rfl
    refine ⟨_, mm_copy σ1 gs1 2 i 0 j m (by decide) gi (by decide) gj gm (by rw [k43]; exact hz4), fun r2 σ2 q2 => ?_⟩
    rw [ts] at q2
    rw [tt] at q2
    rw [k41, k42, k43, k44, x2, x4] at q2
    rw [y2, y4] at q2
    rcases q2 with ⟨n1, n2, n3⟩ | ⟨n1, n2, n3⟩ | ⟨n1, n2, n3⟩ | ⟨n1, n2, n3⟩ | ⟨n1, n2, n3⟩
    · exfalso; omega
    · exfalso; omega
    · exfalso; omega
    · subst h3; subst n3; exact ⟨_, h2, n2, sw_J_mono (N := N) (by omega) ⟨⟨⟨(sw_gs_u (sw_gs_u hσ 0 9 (by decide)) 26 39 (by decide)), hD, hV, hL, hpl, hspd, hbr, her, hmg, h61, h514, h513, h59, hro⟩, (sw_gs_u (sw_gs_u hσ 0 9 (by decide)) 26 39 (by decide)), ⟨e0, e1, e10, e11, e12, e16, e17, e18, e19, e20, e32, e33, e39, er⟩, ⟨e3, hz, hzz, hlm⟩⟩, ⟨hA, e2, hf, ⟨e7, hst, hsp⟩, e13⟩, ⟨⟨el0, hl0⟩, ⟨el1, hl1⟩, ⟨ewt, hwt⟩, ⟨ekp, hkp⟩⟩, b0, ⟨rfl, hsh⟩⟩⟩
    · exfalso; omega
  · have gs1 : sw_gs σ1 := by rw [← h3]; exact fun p q => by unfold sw_cp; split; exact hσ 20 _; exact hσ p q
    have k41 : σ1 41 = σ 41 := by subst h3; rfl
    have k42 : σ1 42 = σ 42 := by subst h3; rfl
    have k43 : σ1 43 = σ 43 := by subst h3; rfl
    have k44 : σ1 44 = σ 44 := by subst h3; rfl
    refine ⟨_, mm_copy σ1 gs1 2 i 0 j m (by decide) gi (by decide) gj gm (by rw [k43]; exact hz4), fun r2 σ2 q2 => ?_⟩
    rw [ts] at q2
    rw [tt] at q2
    rw [k41, k42, k43, k44, x2, x4] at q2
    rw [y2, y4] at q2
    rcases q2 with ⟨n1, n2, n3⟩ | ⟨n1, n2, n3⟩ | ⟨n1, n2, n3⟩ | ⟨n1, n2, n3⟩ | ⟨n1, n2, n3⟩
    · exfalso; omega
    · exfalso; omega
    · exfalso; omega
    · exfalso; omega
    · have gs2 : sw_gs σ2 := by rw [← n3]; exact sw_pg_gs (sw_pf_gs gs1 45 _ (fun k _ => hσ 44 _)) 44 _ _ (fun k _ => sw_pf_gs gs1 45 _ (fun k _ => hσ 44 _) 45 k)
      have gp : sw_gs (sw_rp σ 45 (σ2 45)) := fun p q => by
        unfold sw_rp
        split
        · exact gs2 45 q
        · exact hσ p q
      have Jp : sw_J N (sw_rp σ 45 (σ2 45)) (sw_rp σ 45 (σ2 45)) := sw_J_cong J gp gp hf (fun p q z1 z2 z3 z4 => if_neg (by omega)) (fun p q z1 z2 z3 z4 z5 z6 => if_neg z6)
      have hm : ∀ q, σ2 44 q = (if 60 * 0 + j.toNat ≤ q ∧ q < 60 * 0 + j.toNat + m.toNat then σ 20 (i.toNat + (q - (60 * 0 + j.toNat))) else σ 44 q) := fun q => by
        rw [← n3]
        unfold sw_pg
        by_cases zz : 60 * 0 + j.toNat ≤ q ∧ q < 60 * 0 + j.toNat + m.toNat
        · rw [if_pos (by omega), if_pos zz, sw_pf_in _ 45 _ (by omega), show (60 * (0 : Int) + j).toNat = 60 * 0 + j.toNat by omega]
          rw [show (60 * (2 : Int) + i + ((q - (60 * 0 + j.toNat) : Nat) : Int)).toNat = 60 * 2 + (i.toNat + (q - (60 * 0 + j.toNat))) by omega]
          exact x6 _ (by omega)
        · rw [if_neg (by omega), if_neg zz, sw_pf_row _ _ _ (by decide), k44]
      have hc : ∀ q, σ2 16 q = (if j.toNat ≤ q ∧ q < j.toNat + m.toNat then σ 20 (i.toNat + (q - j.toNat)) else σ 16 q) := fun q => by
        rw [← n3, sw_pg_row _ _ _ _ (by decide), sw_pf_row _ _ _ (by decide), ← h3]
        unfold sw_cp
        by_cases zz : j.toNat ≤ q ∧ q < j.toNat + m.toNat
        · rw [if_pos ⟨rfl, zz⟩, if_pos zz]
        · rw [if_neg (fun y => zz y.2), if_neg zz]
      refine ⟨_, h2, n2, sw_J_mono (N := N) (by omega) (sw_J_it0 Jp gs2 (fun p q z1 z2 => ?_) (fun q hq => ?_) (fun q hq => ?_))⟩
      · unfold sw_rp
        by_cases zz : p = 45
        · rw [if_pos zz, zz]
        · rw [if_neg zz, ← n3, sw_pg_row _ _ _ _ z2, sw_pf_row _ _ _ zz, ← h3]
          unfold sw_cp
          rw [if_neg (fun y => z1 y.1)]
      · rw [hm, hc]
        by_cases zz : j.toNat ≤ q ∧ q < j.toNat + m.toNat
        · rw [if_pos zz, if_pos (by omega), show 60 * 0 + q - (60 * 0 + j.toNat) = q - j.toNat by omega]
        · rw [if_neg zz, if_neg (by omega)]; exact y6 q hq
      · rw [hm, if_neg (by omega)]
        rfl
theorem st_copy21 (N : Int) (hN : 0 ≤ N ∧ N ≤ 900000) (σ : sw_S) (J : sw_J N σ σ) (i j m : Int) (gi : sw_g i) (gj : sw_g j) (gm : sw_g m) : sw_St M_X7_copy M_X8_copy [.inl 2, .inl i, .inl 1, .inl j, .inl m] N σ := by
  obtain ⟨⟨c, g0, w0, z0⟩, r0, l0, b0, s0⟩ := id J
  obtain ⟨hσ, hD, hV, hL, hpl, hspd, hbr, her, hmg, h61, h514, h513, h59, hro⟩ := id c
  obtain ⟨e0, e1, e10, e11, e12, e16, e17, e18, e19, e20, e32, e33, e39, er⟩ := id w0
  obtain ⟨e3, hz, hzz, hlm⟩ := id z0
  obtain ⟨hA, e2, hf, ⟨e7, hst, hsp⟩, e13⟩ := id r0
  obtain ⟨⟨el0, hl0⟩, ⟨el1, hl1⟩, ⟨ewt, hwt⟩, ⟨ekp, hkp⟩⟩ := id l0
  obtain ⟨efi, hsh⟩ := id s0
  obtain ⟨t0, t1, t2, t3⟩ := id hsh
  obtain ⟨x1, x2, x3, x4, x5, x6⟩ := id t2
  obtain ⟨y1, y2, y3, y4, y5, y6⟩ := id t1
  have ts : (2 : Int).toNat = 2 := rfl
  have tt : (1 : Int).toNat = 1 := rfl
  have hz4 : ∀ j : Nat, j < 4 → 0 ≤ σ 43 j ∧ σ 43 j ≤ 60 := fun j hj => by
    rcases (by omega : j = 0 ∨ j = 1 ∨ j = 2 ∨ j = 3) with rfl | rfl | rfl | rfl
    · rw [t0.2.2.2.1]; exact t0.2.2.2.2.1
    · rw [t1.2.2.2.1]; exact t1.2.2.2.2.1
    · rw [t2.2.2.2.1]; exact t2.2.2.2.2.1
    · rw [t3.2.2.2.1]; exact t3.2.2.2.2.1
  refine ⟨_, cc_copy21 σ hσ x5.1 x5.2 y5.1 y5.2 i j m gi gj gm, fun r1 σ1 q1 => ?_⟩
  rcases q1 with ⟨h1, h2, h3⟩ | ⟨h1, h2, h3⟩ | ⟨h1, h2, h3⟩ | ⟨h1, h2, h3⟩
  · have gs1 : sw_gs σ1 := by rw [← h3]; exact sw_gs_u hσ 0 9 (by decide)
    have k41 : σ1 41 = σ 41 := by subst h3; rfl
    have k42 : σ1 42 = σ 42 := by subst h3; rfl
    have k43 : σ1 43 = σ 43 := by subst h3; rfl
    have k44 : σ1 44 = σ 44 := by subst h3; rfl
    refine ⟨_, mm_copy σ1 gs1 2 i 1 j m (by decide) gi (by decide) gj gm (by rw [k43]; exact hz4), fun r2 σ2 q2 => ?_⟩
    rw [ts] at q2
    rw [tt] at q2
    rw [k41, k42, k43, k44, x2, x4] at q2
    rw [y2, y4] at q2
    rcases q2 with ⟨n1, n2, n3⟩ | ⟨n1, n2, n3⟩ | ⟨n1, n2, n3⟩ | ⟨n1, n2, n3⟩ | ⟨n1, n2, n3⟩
    · exfalso; omega
    · subst h3; subst n3; exact ⟨_, h2, n2, sw_J_mono (N := N) (by omega) ⟨⟨⟨(sw_gs_u (sw_gs_u hσ 0 9 (by decide)) 26 39 (by decide)), hD, hV, hL, hpl, hspd, hbr, her, hmg, h61, h514, h513, h59, hro⟩, (sw_gs_u (sw_gs_u hσ 0 9 (by decide)) 26 39 (by decide)), ⟨e0, e1, e10, e11, e12, e16, e17, e18, e19, e20, e32, e33, e39, er⟩, ⟨e3, hz, hzz, hlm⟩⟩, ⟨hA, e2, hf, ⟨e7, hst, hsp⟩, e13⟩, ⟨⟨el0, hl0⟩, ⟨el1, hl1⟩, ⟨ewt, hwt⟩, ⟨ekp, hkp⟩⟩, b0, ⟨rfl, hsh⟩⟩⟩
    · exfalso; omega
    · exfalso; omega
    · exfalso; omega
  · have gs1 : sw_gs σ1 := by rw [← h3]; exact sw_gs_u hσ 0 9 (by decide)
    have k41 : σ1 41 = σ 41 := by subst h3; rfl
    have k42 : σ1 42 = σ 42 := by subst h3; rfl
    have k43 : σ1 43 = σ 43 := by subst h3; rfl
    have k44 : σ1 44 = σ 44 := by subst h3; rfl
    refine ⟨_, mm_copy σ1 gs1 2 i 1 j m (by decide) gi (by decide) gj gm (by rw [k43]; exact hz4), fun r2 σ2 q2 => ?_⟩
    rw [ts] at q2
    rw [tt] at q2
    rw [k41, k42, k43, k44, x2, x4] at q2
    rw [y2, y4] at q2
    rcases q2 with ⟨n1, n2, n3⟩ | ⟨n1, n2, n3⟩ | ⟨n1, n2, n3⟩ | ⟨n1, n2, n3⟩ | ⟨n1, n2, n3⟩
    · exfalso; omega
    · exfalso; omega
    · subst h3; subst n3; exact ⟨_, h2, n2, sw_J_mono (N := N) (by omega) ⟨⟨⟨(sw_gs_u (sw_gs_u hσ 0 9 (by decide)) 26 39 (by decide)), hD, hV, hL, hpl, hspd, hbr, her, hmg, h61, h514, h513, h59, hro⟩, (sw_gs_u (sw_gs_u hσ 0 9 (by decide)) 26 39 (by decide)), ⟨e0, e1, e10, e11, e12, e16, e17, e18, e19, e20, e32, e33, e39, er⟩, ⟨e3, hz, hzz, hlm⟩⟩, ⟨hA, e2, hf, ⟨e7, hst, hsp⟩, e13⟩, ⟨⟨el0, hl0⟩, ⟨el1, hl1⟩, ⟨ewt, hwt⟩, ⟨ekp, hkp⟩⟩, b0, ⟨rfl, hsh⟩⟩⟩
    · exfalso; omega
    · exfalso; omega
  · have gs1 : sw_gs σ1 := by rw [← h3]; exact sw_gs_u hσ 0 9 (by decide)
    have k41 : σ1 41 = σ 41 := by subst h3; rfl
    have k42 : σ1 42 = σ 42 := by subst h3; rfl
    have k43 : σ1 43 = σ 43 := by subst h3; rfl
    have k44 : σ1 44 = σ 44 := by subst h3; rfl
    refine ⟨_, mm_copy σ1 gs1 2 i 1 j m (by decide) gi (by decide) gj gm (by rw [k43]; exact hz4), fun r2 σ2 q2 => ?_⟩
    rw [ts] at q2
    rw [tt] at q2
    rw [k41, k42, k43, k44, x2, x4] at q2
    rw [y2, y4] at q2
    rcases q2 with ⟨n1, n2, n3⟩ | ⟨n1, n2, n3⟩ | ⟨n1, n2, n3⟩ | ⟨n1, n2, n3⟩ | ⟨n1, n2, n3⟩
    · exfalso; omega
    · exfalso; omega
    · exfalso; omega
    · subst h3; subst n3; exact ⟨_, h2, n2, sw_J_mono (N := N) (by omega) ⟨⟨⟨(sw_gs_u (sw_gs_u hσ 0 9 (by decide)) 26 39 (by decide)), hD, hV, hL, hpl, hspd, hbr, her, hmg, h61, h514, h513, h59, hro⟩, (sw_gs_u (sw_gs_u hσ 0 9 (by decide)) 26 39 (by decide)), ⟨e0, e1, e10, e11, e12, e16, e17, e18, e19, e20, e32, e33, e39, er⟩, ⟨e3, hz, hzz, hlm⟩⟩, ⟨hA, e2, hf, ⟨e7, hst, hsp⟩, e13⟩, ⟨⟨el0, hl0⟩, ⟨el1, hl1⟩, ⟨ewt, hwt⟩, ⟨ekp, hkp⟩⟩, b0, ⟨rfl, hsh⟩⟩⟩
    · exfalso; omega
  · have gs1 : sw_gs σ1 := by rw [← h3]; exact fun p q => by unfold sw_cp; split; exact hσ 20 _; exact hσ p q
    have k41 : σ1 41 = σ 41 := by subst h3; rfl
    have k42 : σ1 42 = σ 42 := by subst h3; rfl
    have k43 : σ1 43 = σ 43 := by subst h3; rfl
    have k44 : σ1 44 = σ 44 := by subst h3; rfl
    refine ⟨_, mm_copy σ1 gs1 2 i 1 j m (by decide) gi (by decide) gj gm (by rw [k43]; exact hz4), fun r2 σ2 q2 => ?_⟩
    rw [ts] at q2
    rw [tt] at q2
    rw [k41, k42, k43, k44, x2, x4] at q2
    rw [y2, y4] at q2
    rcases q2 with ⟨n1, n2, n3⟩ | ⟨n1, n2, n3⟩ | ⟨n1, n2, n3⟩ | ⟨n1, n2, n3⟩ | ⟨n1, n2, n3⟩
    · exfalso; omega
    · exfalso; omega
    · exfalso; omega
    · exfalso; omega
    · have gs2 : sw_gs σ2 := by rw [← n3]; exact sw_pg_gs (sw_pf_gs gs1 45 _ (fun k _ => hσ 44 _)) 44 _ _ (fun k _ => sw_pf_gs gs1 45 _ (fun k _ => hσ 44 _) 45 k)
      have gp : sw_gs (sw_rp σ 45 (σ2 45)) := fun p q => by
        unfold sw_rp
        split
        · exact gs2 45 q
        · exact hσ p q
      have Jp : sw_J N (sw_rp σ 45 (σ2 45)) (sw_rp σ 45 (σ2 45)) := sw_J_cong J gp gp hf (fun p q z1 z2 z3 z4 => if_neg (by omega)) (fun p q z1 z2 z3 z4 z5 z6 => if_neg z6)
      have hm : ∀ q, σ2 44 q = (if 60 * 1 + j.toNat ≤ q ∧ q < 60 * 1 + j.toNat + m.toNat then σ 20 (i.toNat + (q - (60 * 1 + j.toNat))) else σ 44 q) := fun q => by
        rw [← n3]
        unfold sw_pg
        by_cases zz : 60 * 1 + j.toNat ≤ q ∧ q < 60 * 1 + j.toNat + m.toNat
        · rw [if_pos (by omega), if_pos zz, sw_pf_in _ 45 _ (by omega), show (60 * (1 : Int) + j).toNat = 60 * 1 + j.toNat by omega]
          rw [show (60 * (2 : Int) + i + ((q - (60 * 1 + j.toNat) : Nat) : Int)).toNat = 60 * 2 + (i.toNat + (q - (60 * 1 + j.toNat))) by omega]
          exact x6 _ (by omega)
        · rw [if_neg (by omega), if_neg zz, sw_pf_row _ _ _ (by decide), k44]
      have hc : ∀ q, σ2 18 q = (if j.toNat ≤ q ∧ q < j.toNat + m.toNat then σ 20 (i.toNat + (q - j.toNat)) else σ 18 q) := fun q => by
        rw [← n3, sw_pg_row _ _ _ _ (by decide), sw_pf_row _ _ _ (by decide), ← h3]
        unfold sw_cp
        by_cases zz : j.toNat ≤ q ∧ q < j.toNat + m.toNat
        · rw [if_pos ⟨rfl, zz⟩, if_pos zz]
        · rw [if_neg (fun y => zz y.2), if_neg zz]
      refine ⟨_, h2, n2, sw_J_mono (N := N) (by omega) (sw_J_it1 Jp gs2 (fun p q z1 z2 => ?_) (fun q hq => ?_) (fun q hq => ?_))⟩
      · unfold sw_rp
        by_cases zz : p = 45
        · rw [if_pos zz, zz]
        · rw [if_neg zz, ← n3, sw_pg_row _ _ _ _ z2, sw_pf_row _ _ _ zz, ← h3]
          unfold sw_cp
          rw [if_neg (fun y => z1 y.1)]
      · rw [hm, hc]
        by_cases zz : j.toNat ≤ q ∧ q < j.toNat + m.toNat
        · rw [if_pos zz, if_pos (by omega), show 60 * 1 + q - (60 * 1 + j.toNat) = q - j.toNat by omega]
        · rw [if_neg zz, if_neg (by omega)]; exact y6 q hq
      · rw [hm, if_neg (by omega)]
        rfl
theorem st_copy22 (N : Int) (hN : 0 ≤ N ∧ N ≤ 900000) (σ : sw_S) (J : sw_J N σ σ) (i j m : Int) (gi : sw_g i) (gj : sw_g j) (gm : sw_g m) : sw_St M_X7_copy M_X8_copy [.inl 2, .inl i, .inl 2, .inl j, .inl m] N σ := by
  obtain ⟨⟨c, g0, w0, z0⟩, r0, l0, b0, s0⟩ := id J
  obtain ⟨hσ, hD, hV, hL, hpl, hspd, hbr, her, hmg, h61, h514, h513, h59, hro⟩ := id c
  obtain ⟨e0, e1, e10, e11, e12, e16, e17, e18, e19, e20, e32, e33, e39, er⟩ := id w0
  obtain ⟨e3, hz, hzz, hlm⟩ := id z0
  obtain ⟨hA, e2, hf, ⟨e7, hst, hsp⟩, e13⟩ := id r0
  obtain ⟨⟨el0, hl0⟩, ⟨el1, hl1⟩, ⟨ewt, hwt⟩, ⟨ekp, hkp⟩⟩ := id l0
  obtain ⟨efi, hsh⟩ := id s0
  obtain ⟨t0, t1, t2, t3⟩ := id hsh
  obtain ⟨x1, x2, x3, x4, x5, x6⟩ := id t2
  obtain ⟨y1, y2, y3, y4, y5, y6⟩ := id t2
  have ts : (2 : Int).toNat = 2 := rfl
  have tt : (2 : Int).toNat = 2 := rfl
  have hz4 : ∀ j : Nat, j < 4 → 0 ≤ σ 43 j ∧ σ 43 j ≤ 60 := fun j hj => by
    rcases (by omega : j = 0 ∨ j = 1 ∨ j = 2 ∨ j = 3) with rfl | rfl | rfl | rfl
    · rw [t0.2.2.2.1]; exact t0.2.2.2.2.1
    · rw [t1.2.2.2.1]; exact t1.2.2.2.2.1
    · rw [t2.2.2.2.1]; exact t2.2.2.2.2.1
    · rw [t3.2.2.2.1]; exact t3.2.2.2.2.1
  refine ⟨_, cc_copy22 σ hσ x5.1 x5.2 y5.1 y5.2 i j m gi gj gm, fun r1 σ1 q1 => ?_⟩
  rcases q1 with ⟨h1, h2, h3⟩ | ⟨h1, h2, h3⟩ | ⟨h1, h2, h3⟩ | ⟨h1, h2, h3⟩
  · have gs1 : sw_gs σ1 := by rw [← h3]; exact sw_gs_u hσ 0 9 (by decide)
    have k41 : σ1 41 = σ 41 := by subst h3; rfl
    have k42 : σ1 42 = σ 42 := by subst h3; rfl
    have k43 : σ1 43 = σ 43 := by subst h3; rfl
    have k44 : σ1 44 = σ 44 := by subst h3; rfl
    refine ⟨_, mm_copy σ1 gs1 2 i 2 j m (by decide) gi (by decide) gj gm (by rw [k43]; exact hz4), fun r2 σ2 q2 => ?_⟩
    rw [ts] at q2
    rw [k41, k42, k43, k44, x2, x4] at q2
    rcases q2 with ⟨n1, n2, n3⟩ | ⟨n1, n2, n3⟩ | ⟨n1, n2, n3⟩ | ⟨n1, n2, n3⟩ | ⟨n1, n2, n3⟩
    · exfalso; omega
    · subst h3; subst n3; exact ⟨_, h2, n2, sw_J_mono (N := N) (by omega) ⟨⟨⟨(sw_gs_u (sw_gs_u hσ 0 9 (by decide)) 26 39 (by decide)), hD, hV, hL, hpl, hspd, hbr, her, hmg, h61, h514, h513, h59, hro⟩, (sw_gs_u (sw_gs_u hσ 0 9 (by decide)) 26 39 (by decide)), ⟨e0, e1, e10, e11, e12, e16, e17, e18, e19, e20, e32, e33, e39, er⟩, ⟨e3, hz, hzz, hlm⟩⟩, ⟨hA, e2, hf, ⟨e7, hst, hsp⟩, e13⟩, ⟨⟨el0, hl0⟩, ⟨el1, hl1⟩, ⟨ewt, hwt⟩, ⟨ekp, hkp⟩⟩, b0, ⟨rfl, hsh⟩⟩⟩
    · exfalso; omega
    · exfalso; omega
    · exfalso; omega
  · have gs1 : sw_gs σ1 := by rw [← h3]; exact sw_gs_u hσ 0 9 (by decide)
    have k41 : σ1 41 = σ 41 := by subst h3; rfl
    have k42 : σ1 42 = σ 42 := by subst h3; rfl
    have k43 : σ1 43 = σ 43 := by subst h3; rfl
    have k44 : σ1 44 = σ 44 := by subst h3; rfl
    refine ⟨_, mm_copy σ1 gs1 2 i 2 j m (by decide) gi (by decide) gj gm (by rw [k43]; exact hz4), fun r2 σ2 q2 => ?_⟩
    rw [ts] at q2
    rw [k41, k42, k43, k44, x2, x4] at q2
    rcases q2 with ⟨n1, n2, n3⟩ | ⟨n1, n2, n3⟩ | ⟨n1, n2, n3⟩ | ⟨n1, n2, n3⟩ | ⟨n1, n2, n3⟩
    · exfalso; omega
    · exfalso; omega
    · subst h3; subst n3; exact ⟨_, h2, n2, sw_J_mono (N := N) (by omega) ⟨⟨⟨(sw_gs_u (sw_gs_u hσ 0 9 (by decide)) 26 39 (by decide)), hD, hV, hL, hpl, hspd, hbr, her, hmg, h61, h514, h513, h59, hro⟩, (sw_gs_u (sw_gs_u hσ 0 9 (by decide)) 26 39 (by decide)), ⟨e0, e1, e10, e11, e12, e16, e17, e18, e19, e20, e32, e33, e39, er⟩, ⟨e3, hz, hzz, hlm⟩⟩, ⟨hA, e2, hf, ⟨e7, hst, hsp⟩, e13⟩, ⟨⟨el0, hl0⟩, ⟨el1, hl1⟩, ⟨ewt, hwt⟩, ⟨ekp, hkp⟩⟩, b0, ⟨rfl, hsh⟩⟩⟩
    · exfalso; omega
    · exfalso; omega
  · have gs1 : sw_gs σ1 := by rw [← h3]; exact sw_gs_u hσ 0 9 (by decide)
    have k41 : σ1 41 = σ 41 := by subst h3; rfl
    have k42 : σ1 42 = σ 42 := by subst h3; rfl
    have k43 : σ1 43 = σ 43 := by subst h3; rfl
    have k44 : σ1 44 = σ 44 := by subst h3; rfl
    refine ⟨_, mm_copy σ1 gs1 2 i 2 j m (by decide) gi (by decide) gj gm (by rw [k43]; exact hz4), fun r2 σ2 q2 => ?_⟩
    rw [ts] at q2
    rw [k41, k42, k43, k44, x2, x4] at q2
    rcases q2 with ⟨n1, n2, n3⟩ | ⟨n1, n2, n3⟩ | ⟨n1, n2, n3⟩ | ⟨n1, n2, n3⟩ | ⟨n1, n2, n3⟩
    · exfalso; omega
    · exfalso; omega
    · exfalso; omega
    · subst h3; subst n3; exact ⟨_, h2, n2, sw_J_mono (N := N) (by omega) ⟨⟨⟨(sw_gs_u (sw_gs_u hσ 0 9 (by decide)) 26 39 (by decide)), hD, hV, hL, hpl, hspd, hbr, her, hmg, h61, h514, h513, h59, hro⟩, (sw_gs_u (sw_gs_u hσ 0 9 (by decide)) 26 39 (by decide)), ⟨e0, e1, e10, e11, e12, e16, e17, e18, e19, e20, e32, e33, e39, er⟩, ⟨e3, hz, hzz, hlm⟩⟩, ⟨hA, e2, hf, ⟨e7, hst, hsp⟩, e13⟩, ⟨⟨el0, hl0⟩, ⟨el1, hl1⟩, ⟨ewt, hwt⟩, ⟨ekp, hkp⟩⟩, b0, ⟨rfl, hsh⟩⟩⟩
    · exfalso; omega
  · have gs1 : sw_gs σ1 := by rw [← h3]; exact fun p q => by unfold sw_cp; split; exact hσ 20 _; exact hσ p q
    have k41 : σ1 41 = σ 41 := by subst h3; rfl
    have k42 : σ1 42 = σ 42 := by subst h3; rfl
    have k43 : σ1 43 = σ 43 := by subst h3; rfl
    have k44 : σ1 44 = σ 44 := by subst h3; rfl
    refine ⟨_, mm_copy σ1 gs1 2 i 2 j m (by decide) gi (by decide) gj gm (by rw [k43]; exact hz4), fun r2 σ2 q2 => ?_⟩
    rw [ts] at q2
    rw [k41, k42, k43, k44, x2, x4] at q2
    rcases q2 with ⟨n1, n2, n3⟩ | ⟨n1, n2, n3⟩ | ⟨n1, n2, n3⟩ | ⟨n1, n2, n3⟩ | ⟨n1, n2, n3⟩
    · exfalso; omega
    · exfalso; omega
    · exfalso; omega
    · exfalso; omega
    · have gs2 : sw_gs σ2 := by rw [← n3]; exact sw_pg_gs (sw_pf_gs gs1 45 _ (fun k _ => hσ 44 _)) 44 _ _ (fun k _ => sw_pf_gs gs1 45 _ (fun k _ => hσ 44 _) 45 k)
      have gp : sw_gs (sw_rp σ 45 (σ2 45)) := fun p q => by
        unfold sw_rp
        split
        · exact gs2 45 q
        · exact hσ p q
      have Jp : sw_J N (sw_rp σ 45 (σ2 45)) (sw_rp σ 45 (σ2 45)) := sw_J_cong J gp gp hf (fun p q z1 z2 z3 z4 => if_neg (by omega)) (fun p q z1 z2 z3 z4 z5 z6 => if_neg z6)
      have hm : ∀ q, σ2 44 q = (if 60 * 2 + j.toNat ≤ q ∧ q < 60 * 2 + j.toNat + m.toNat then σ 20 (i.toNat + (q - (60 * 2 + j.toNat))) else σ 44 q) := fun q => by
        rw [← n3]
        unfold sw_pg
        by_cases zz : 60 * 2 + j.toNat ≤ q ∧ q < 60 * 2 + j.toNat + m.toNat
        · rw [if_pos (by omega), if_pos zz, sw_pf_in _ 45 _ (by omega), show (60 * (2 : Int) + j).toNat = 60 * 2 + j.toNat by omega]
          rw [show (60 * (2 : Int) + i + ((q - (60 * 2 + j.toNat) : Nat) : Int)).toNat = 60 * 2 + (i.toNat + (q - (60 * 2 + j.toNat))) by omega]
          exact x6 _ (by omega)
        · rw [if_neg (by omega), if_neg zz, sw_pf_row _ _ _ (by decide), k44]
      have hc : ∀ q, σ2 20 q = (if j.toNat ≤ q ∧ q < j.toNat + m.toNat then σ 20 (i.toNat + (q - j.toNat)) else σ 20 q) := fun q => by
        rw [← n3, sw_pg_row _ _ _ _ (by decide), sw_pf_row _ _ _ (by decide), ← h3]
        unfold sw_cp
        by_cases zz : j.toNat ≤ q ∧ q < j.toNat + m.toNat
        · rw [if_pos ⟨rfl, zz⟩, if_pos zz]
        · rw [if_neg (fun y => zz y.2), if_neg zz]
      refine ⟨_, h2, n2, sw_J_mono (N := N) (by omega) (sw_J_it2 Jp gs2 (fun p q z1 z2 => ?_) (fun q hq => ?_) (fun q hq => ?_))⟩
      · unfold sw_rp
        by_cases zz : p = 45
        · rw [if_pos zz, zz]
        · rw [if_neg zz, ← n3, sw_pg_row _ _ _ _ z2, sw_pf_row _ _ _ zz, ← h3]
          unfold sw_cp
          rw [if_neg (fun y => z1 y.1)]
      · rw [hm, hc]
        by_cases zz : j.toNat ≤ q ∧ q < j.toNat + m.toNat
        · rw [if_pos zz, if_pos (by omega), show 60 * 2 + q - (60 * 2 + j.toNat) = q - j.toNat by omega]
        · rw [if_neg zz, if_neg (by omega)]; exact y6 q hq
      · rw [hm, if_neg (by omega)]
        rfl
theorem st_copy23 (N : Int) (hN : 0 ≤ N ∧ N ≤ 900000) (σ : sw_S) (J : sw_J N σ σ) (i j m : Int) (gi : sw_g i) (gj : sw_g j) (gm : sw_g m) : sw_St M_X7_copy M_X8_copy [.inl 2, .inl i, .inl 3, .inl j, .inl m] N σ := by
  obtain ⟨⟨c, g0, w0, z0⟩, r0, l0, b0, s0⟩ := id J
  obtain ⟨hσ, hD, hV, hL, hpl, hspd, hbr, her, hmg, h61, h514, h513, h59, hro⟩ := id c
  obtain ⟨e0, e1, e10, e11, e12, e16, e17, e18, e19, e20, e32, e33, e39, er⟩ := id w0
  obtain ⟨e3, hz, hzz, hlm⟩ := id z0
  obtain ⟨hA, e2, hf, ⟨e7, hst, hsp⟩, e13⟩ := id r0
  obtain ⟨⟨el0, hl0⟩, ⟨el1, hl1⟩, ⟨ewt, hwt⟩, ⟨ekp, hkp⟩⟩ := id l0
  obtain ⟨efi, hsh⟩ := id s0
  obtain ⟨t0, t1, t2, t3⟩ := id hsh
  obtain ⟨x1, x2, x3, x4, x5, x6⟩ := id t2
  obtain ⟨y1, y2, y3, y4, y5, y6⟩ := id t3
  have ts : (2 : Int).toNat = 2 := rfl
  have tt : (3 : Int).toNat = 3 := rfl
  have hz4 : ∀ j : Nat, j < 4 → 0 ≤ σ 43 j ∧ σ 43 j ≤ 60 := fun j hj => by
    rcases (by omega : j = 0 ∨ j = 1 ∨ j = 2 ∨ j = 3) with rfl | rfl | rfl | rfl
    · rw [t0.2.2.2.1]; exact t0.2.2.2.2.1
    · rw [t1.2.2.2.1]; exact t1.2.2.2.2.1
    · rw [t2.2.2.2.1]; exact t2.2.2.2.2.1
    · rw [t3.2.2.2.1]; exact t3.2.2.2.2.1
  refine ⟨_, cc_copy23 σ hσ x5.1 x5.2 y5.1 y5.2 i j m gi gj gm, fun r1 σ1 q1 => ?_⟩
  rcases q1 with ⟨h1, h2, h3⟩ | ⟨h1, h2, h3⟩ | ⟨h1, h2, h3⟩ | ⟨h1, h2, h3⟩
  · have gs1 : sw_gs σ1 := by rw [← h3]; exact sw_gs_u hσ 0 9 (by decide)
    have k41 : σ1 41 = σ 41 := by subst h3; rfl
    have k42 : σ1 42 = σ 42 := by subst h3; rfl
    have k43 : σ1 43 = σ 43 := by subst h3; rfl
    have k44 : σ1 44 = σ 44 := by subst h3; rfl
    refine ⟨_, mm_copy σ1 gs1 2 i 3 j m (by decide) gi (by decide) gj gm (by rw [k43]; exact hz4), fun r2 σ2 q2 => ?_⟩
    rw [ts] at q2
    rw [tt] at q2
    rw [k41, k42, k43, k44, x2, x4] at q2
    rw [y2, y4] at q2
    rcases q2 with ⟨n1, n2, n3⟩ | ⟨n1, n2, n3⟩ | ⟨n1, n2, n3⟩ | ⟨n1, n2, n3⟩ | ⟨n1, n2, n3⟩
    · exfalso; omega
    · subst h3; subst n3; exact ⟨_, h2, n2, sw_J_mono (N := N) (by omega) ⟨⟨⟨(sw_gs_u (sw_gs_u hσ 0 9 (by decide)) 26 39 (by decide)), hD, hV, hL, hpl, hspd, hbr, her, hmg, h61, h514, h513, h59, hro⟩, (sw_gs_u (sw_gs_u hσ 0 9 (by decide)) 26 39 (by decide)), ⟨e0, e1, e10, e11, e12, e16, e17, e18, e19, e20, e32, e33, e39, er⟩, ⟨e3, hz, hzz, hlm⟩⟩, ⟨hA, e2, hf, ⟨e7, hst, hsp⟩, e13⟩, ⟨⟨el0, hl0⟩, ⟨el1, hl1⟩, ⟨ewt, hwt⟩, ⟨ekp, hkp⟩⟩, b0, ⟨rfl, hsh⟩⟩⟩
    · exfalso; omega
    · exfalso; omega
    · exfalso; omega
  · have gs1 : sw_gs σ1 := by rw [← h3]; exact sw_gs_u hσ 0 9 (by decide)
    have k41 : σ1 41 = σ 41 := by subst h3; rfl
    have k42 : σ1 42 = σ 42 := by subst h3; rfl
    have k43 : σ1 43 = σ 43 := by subst h3; rfl
    have k44 : σ1 44 = σ 44 := by subst h3; rfl
    refine ⟨_, mm_copy σ1 gs1 2 i 3 j m (by decide) gi (by decide) gj gm (by rw [k43]; exact hz4), fun r2 σ2 q2 => ?_⟩
    rw [ts] at q2
    rw [tt] at q2
    rw [k41, k42, k43, k44, x2, x4] at q2
    rw [y2, y4] at q2
    rcases q2 with ⟨n1, n2, n3⟩ | ⟨n1, n2, n3⟩ | ⟨n1, n2, n3⟩ | ⟨n1, n2, n3⟩ | ⟨n1, n2, n3⟩
    · exfalso; omega
    · exfalso; omega
    · subst h3; subst n3; exact ⟨_, h2, n2, sw_J_mono (N := N) (by omega) ⟨⟨⟨(sw_gs_u (sw_gs_u hσ 0 9 (by decide)) 26 39 (by decide)), hD, hV, hL, hpl, hspd, hbr, her, hmg, h61, h514, h513, h59, hro⟩, (sw_gs_u (sw_gs_u hσ 0 9 (by decide)) 26 39 (by decide)), ⟨e0, e1, e10, e11, e12, e16, e17, e18, e19, e20, e32, e33, e39, er⟩, ⟨e3, hz, hzz, hlm⟩⟩, ⟨hA, e2, hf, ⟨e7, hst, hsp⟩, e13⟩, ⟨⟨el0, hl0⟩, ⟨el1, hl1⟩, ⟨ewt, hwt⟩, ⟨ekp, hkp⟩⟩, b0, ⟨rfl, hsh⟩⟩⟩
    · exfalso; omega
    · exfalso; omega
  · have gs1 : sw_gs σ1 := by rw [← h3]; exact sw_gs_u hσ 0 9 (by decide)
    have k41 : σ1 41 = σ 41 := by subst h3; rfl
    have k42 : σ1 42 = σ 42 := by subst h3; rfl
    have k43 : σ1 43 = σ 43 := by subst h3; rfl
    have k44 : σ1 44 = σ 44 := by subst h3; rfl
    refine ⟨_, mm_copy σ1 gs1 2 i 3 j m (by decide) gi (by decide) gj gm (by rw [k43]; exact hz4), fun r2 σ2 q2 => ?_⟩
    rw [ts] at q2
    rw [tt] at q2
    rw [k41, k42, k43, k44, x2, x4] at q2
    rw [y2, y4] at q2
    rcases q2 with ⟨n1, n2, n3⟩ | ⟨n1, n2, n3⟩ | ⟨n1, n2, n3⟩ | ⟨n1, n2, n3⟩ | ⟨n1, n2, n3⟩
    · exfalso; omega
    · exfalso; omega
    · exfalso; omega
    · subst h3; subst n3; exact ⟨_, h2, n2, sw_J_mono (N := N) (by omega) ⟨⟨⟨(sw_gs_u (sw_gs_u hσ 0 9 (by decide)) 26 39 (by decide)), hD, hV, hL, hpl, hspd, hbr, her, hmg, h61, h514, h513, h59, hro⟩, (sw_gs_u (sw_gs_u hσ 0 9 (by decide)) 26 39 (by decide)), ⟨e0, e1, e10, e11, e12, e16, e17, e18, e19, e20, e32, e33, e39, er⟩, ⟨e3, hz, hzz, hlm⟩⟩, ⟨hA, e2, hf, ⟨e7, hst, hsp⟩, e13⟩, ⟨⟨el0, hl0⟩, ⟨el1, hl1⟩, ⟨ewt, hwt⟩, ⟨ekp, hkp⟩⟩, b0, ⟨rfl, hsh⟩⟩⟩
    · exfalso; omega
  · have gs1 : sw_gs σ1 := by rw [← h3]; exact fun p q => by unfold sw_cp; split; exact hσ 20 _; exact hσ p q
    have k41 : σ1 41 = σ 41 := by subst h3; rfl
    have k42 : σ1 42 = σ 42 := by subst h3; rfl
    have k43 : σ1 43 = σ 43 := by subst h3; rfl
    have k44 : σ1 44 = σ 44 := by subst h3; rfl
    refine ⟨_, mm_copy σ1 gs1 2 i 3 j m (by decide) gi (by decide) gj gm (by rw [k43]; exact hz4), fun r2 σ2 q2 => ?_⟩
    rw [ts] at q2
    rw [tt] at q2
    rw [k41, k42, k43, k44, x2, x4] at q2
    rw [y2, y4] at q2
    rcases q2 with ⟨n1, n2, n3⟩ | ⟨n1, n2, n3⟩ | ⟨n1, n2, n3⟩ | ⟨n1, n2, n3⟩ | ⟨n1, n2, n3⟩
    · exfalso; omega
    · exfalso; omega
    · exfalso; omega
    · exfalso; omega
    · have gs2 : sw_gs σ2 := by rw [← n3]; exact sw_pg_gs (sw_pf_gs gs1 45 _ (fun k _ => hσ 44 _)) 44 _ _ (fun k _ => sw_pf_gs gs1 45 _ (fun k _ => hσ 44 _) 45 k)
      have gp : sw_gs (sw_rp σ 45 (σ2 45)) := fun p q => by
        unfold sw_rp
        split
        · exact gs2 45 q
        · exact hσ p q
      have Jp : sw_J N (sw_rp σ 45 (σ2 45)) (sw_rp σ 45 (σ2 45)) := sw_J_cong J gp gp hf (fun p q z1 z2 z3 z4 => if_neg (by omega)) (fun p q z1 z2 z3 z4 z5 z6 => if_neg z6)
      have hm : ∀ q, σ2 44 q = (if 60 * 3 + j.toNat ≤ q ∧ q < 60 * 3 + j.toNat + m.toNat then σ 20 (i.toNat + (q - (60 * 3 + j.toNat))) else σ 44 q) := fun q => by
        rw [← n3]
        unfold sw_pg
        by_cases zz : 60 * 3 + j.toNat ≤ q ∧ q < 60 * 3 + j.toNat + m.toNat
        · rw [if_pos (by omega), if_pos zz, sw_pf_in _ 45 _ (by omega), show (60 * (3 : Int) + j).toNat = 60 * 3 + j.toNat by omega]
          rw [show (60 * (2 : Int) + i + ((q - (60 * 3 + j.toNat) : Nat) : Int)).toNat = 60 * 2 + (i.toNat + (q - (60 * 3 + j.toNat))) by omega]
          exact x6 _ (by omega)
        · rw [if_neg (by omega), if_neg zz, sw_pf_row _ _ _ (by decide), k44]
      have hc : ∀ q, σ2 22 q = (if j.toNat ≤ q ∧ q < j.toNat + m.toNat then σ 20 (i.toNat + (q - j.toNat)) else σ 22 q) := fun q => by
        rw [← n3, sw_pg_row _ _ _ _ (by decide), sw_pf_row _ _ _ (by decide), ← h3]
        unfold sw_cp
        by_cases zz : j.toNat ≤ q ∧ q < j.toNat + m.toNat
        · rw [if_pos ⟨rfl, zz⟩, if_pos zz]
        · rw [if_neg (fun y => zz y.2), if_neg zz]
      refine ⟨_, h2, n2, sw_J_mono (N := N) (by omega) (sw_J_it3 Jp gs2 (fun p q z1 z2 => ?_) (fun q hq => ?_) (fun q hq => ?_))⟩
      · unfold sw_rp
        by_cases zz : p = 45
        · rw [if_pos zz, zz]
        · rw [if_neg zz, ← n3, sw_pg_row _ _ _ _ z2, sw_pf_row _ _ _ zz, ← h3]
          unfold sw_cp
          rw [if_neg (fun y => z1 y.1)]
      · rw [hm, hc]
        by_cases zz : j.toNat ≤ q ∧ q < j.toNat + m.toNat
        · rw [if_pos zz, if_pos (by omega), show 60 * 3 + q - (60 * 3 + j.toNat) = q - j.toNat by omega]
        · rw [if_neg zz, if_neg (by omega)]; exact y6 q hq
      · rw [hm, if_neg (by omega)]
        rfl
theorem st_copy30 (N : Int) (hN : 0 ≤ N ∧ N ≤ 900000) (σ : sw_S) (J : sw_J N σ σ) (i j m : Int) (gi : sw_g i) (gj : sw_g j) (gm : sw_g m) : sw_St M_X7_copy M_X8_copy [.inl 3, .inl i, .inl 0, .inl j, .inl m] N σ := by
  obtain ⟨⟨c, g0, w0, z0⟩, r0, l0, b0, s0⟩ := id J
  obtain ⟨hσ, hD, hV, hL, hpl, hspd, hbr, her, hmg, h61, h514, h513, h59, hro⟩ := id c
  obtain ⟨e0, e1, e10, e11, e12, e16, e17, e18, e19, e20, e32, e33, e39, er⟩ := id w0
  obtain ⟨e3, hz, hzz, hlm⟩ := id z0
  obtain ⟨hA, e2, hf, ⟨e7, hst, hsp⟩, e13⟩ := id r0
  obtain ⟨⟨el0, hl0⟩, ⟨el1, hl1⟩, ⟨ewt, hwt⟩, ⟨ekp, hkp⟩⟩ := id l0
  obtain ⟨efi, hsh⟩ := id s0
  obtain ⟨t0, t1, t2, t3⟩ := id hsh
  obtain ⟨x1, x2, x3, x4, x5, x6⟩ := id t3
  obtain ⟨y1, y2, y3, y4, y5, y6⟩ := id t0
  have ts : (3 : Int).toNat = 3 := rfl
  have tt : (0 : Int).toNat = 0 := rfl
  have hz4 : ∀ j : Nat, j < 4 → 0 ≤ σ 43 j ∧ σ 43 j ≤ 60 := fun j hj => by
    rcases (by omega : j = 0 ∨ j = 1 ∨ j = 2 ∨ j = 3) with rfl | rfl | rfl | rfl
    · rw [t0.2.2.2.1]; exact t0.2.2.2.2.1
    · rw [t1.2.2.2.1]; exact t1.2.2.2.2.1
    · rw [t2.2.2.2.1]; exact t2.2.2.2.2.1
    · rw [t3.2.2.2.1]; exact t3.2.2.2.2.1
  refine ⟨_, cc_copy30 σ hσ x5.1 x5.2 y5.1 y5.2 i j m gi gj gm, fun r1 σ1 q1 => ?_⟩
  rcases q1 with ⟨h1, h2, h3⟩ | ⟨h1, h2, h3⟩ | ⟨h1, h2, h3⟩ | ⟨h1, h2, h3⟩
  · have gs1 : sw_gs σ1 := by rw [← h3]; exact sw_gs_u hσ 0 9 (by decide)
    have k41 : σ1 41 = σ 41 := by subst h3; rfl
    have k42 : σ1 42 = σ 42 := by subst h3; rfl
    have k43 : σ1 43 = σ 43 := by subst h3; rfl
    have k44 : σ1 44 = σ 44 := by subst h3; rfl
    refine ⟨_, mm_copy σ1 gs1 3 i 0 j m (by decide) gi (by decide) gj gm (by rw [k43]; exact hz4), fun r2 σ2 q2 => ?_⟩
    rw [ts] at q2
    rw [tt] at q2
    rw [k41, k42, k43, k44, x2, x4] at q2
    rw [y2, y4] at q2
    rcases q2 with ⟨n1, n2, n3⟩ | ⟨n1, n2, n3⟩ | ⟨n1, n2, n3⟩ | ⟨n1, n2, n3⟩ | ⟨n1, n2, n3⟩
    · exfalso; omega
    · subst h3; subst n3; exact ⟨_, h2, n2, sw_J_mono (N := N) (by omega) ⟨⟨⟨(sw_gs_u (sw_gs_u hσ 0 9 (by decide)) 26 39 (by decide)), hD, hV, hL, hpl, hspd, hbr, her, hmg, h61, h514, h513, h59, hro⟩, (sw_gs_u (sw_gs_u hσ 0 9 (by decide)) 26 39 (by decide)), ⟨e0, e1, e10, e11, e12, e16, e17, e18, e19, e20, e32, e33, e39, er⟩, ⟨e3, hz, hzz, hlm⟩⟩, ⟨hA, e2, hf, ⟨e7, hst, hsp⟩, e13⟩, ⟨⟨el0, hl0⟩, ⟨el1, hl1⟩, ⟨ewt, hwt⟩, ⟨ekp, hkp⟩⟩, b0, ⟨rfl, hsh⟩⟩⟩
    · exfalso; omega
    · exfalso; omega
    · exfalso; omega
  · have gs1 : sw_gs σ1 := by rw [← h3]; exact sw_gs_u hσ 0 9 (by decide)
    have k41 : σ1 41 = σ 41 := by subst h3; rfl
    have k42 : σ1 42 = σ 42 := by subst h3; rfl
    have k43 : σ1 43 = σ 43 := by subst h3; rfl
    have k44 : σ1 44 = σ 44 := by subst h3; rfl
    refine ⟨_, mm_copy σ1 gs1 3 i 0 j m (by decide) gi (by decide) gj gm (by rw [k43]; exact hz4), fun r2 σ2 q2 => ?_⟩
    rw [ts] at q2
    rw [tt] at q2
    rw [k41, k42, k43, k44, x2, x4] at q2
    rw [y2, y4] at q2
    rcases q2 with ⟨n1, n2, n3⟩ | ⟨n1, n2, n3⟩ | ⟨n1, n2, n3⟩ | ⟨n1, n2, n3⟩ | ⟨n1, n2, n3⟩
    · exfalso; omega
    · exfalso; omega
    · subst h3; subst n3; exact ⟨_, h2, n2, sw_J_mono (N := N) (by omega) ⟨⟨⟨(sw_gs_u (sw_gs_u hσ 0 9 (by decide)) 26 39 (by decide)), hD, hV, hL, hpl, hspd, hbr, her, hmg, h61, h514, h513, h59, hro⟩, (sw_gs_u (sw_gs_u hσ 0 9 (by decide)) 26 39 (by decide)), ⟨e0, e1, e10, e11, e12, e16, e17, e18, e19, e20, e32, e33, e39, er⟩, ⟨e3, hz, hzz, hlm⟩⟩, ⟨hA, e2, hf, ⟨e7, hst, hsp⟩, e13⟩, ⟨⟨el0, hl0⟩, ⟨el1, hl1⟩, ⟨ewt, hwt⟩, ⟨ekp, hkp⟩⟩, b0, ⟨rfl, hsh⟩⟩⟩
    · exfalso; omega
    · exfalso; omega
  · have gs1 : sw_gs σ1 := by rw [← h3]; exact sw_gs_u hσ 0 9 (by decide)
    have k41 : σ1 41 = σ 41 := by subst h3; rfl
    have k42 : σ1 42 = σ 42 := by subst h3; rfl
    have k43 : σ1 43 = σ 43 := by subst h3; rfl
    have k44 : σ1 44 = σ 44 := by subst h3; rfl
    refine ⟨_, mm_copy σ1 gs1 3 i 0 j m (by decide) gi (by decide) gj gm (by rw [k43]; exact hz4), fun r2 σ2 q2 => ?_⟩
    rw [ts] at q2
    rw [tt] at q2
    rw [k41, k42, k43, k44, x2, x4] at q2
    rw [y2, y4] at q2
    rcases q2 with ⟨n1, n2, n3⟩ | ⟨n1, n2, n3⟩ | ⟨n1, n2, n3⟩ | ⟨n1, n2, n3⟩ | ⟨n1, n2, n3⟩
    · exfalso; omega
    · exfalso; omega
    · exfalso; omega
    · subst h3; subst n3; exact ⟨_, h2, n2, sw_J_mono (N := N) (by omega) ⟨⟨⟨(sw_gs_u (sw_gs_u hσ 0 9 (by decide)) 26 39 (by decide)), hD, hV, hL, hpl, hspd, hbr, her, hmg, h61, h514, h513, h59, hro⟩, (sw_gs_u (sw_gs_u hσ 0 9 (by decide)) 26 39 (by decide)), ⟨e0, e1, e10, e11, e12, e16, e17, e18, e19, e20, e32, e33, e39, er⟩, ⟨e3, hz, hzz, hlm⟩⟩, ⟨hA, e2, hf, ⟨e7, hst, hsp⟩, e13⟩, ⟨⟨el0, hl0⟩, ⟨el1, hl1⟩, ⟨ewt, hwt⟩, ⟨ekp, hkp⟩⟩, b0, ⟨rfl, hsh⟩⟩⟩
    · exfalso; omega
  · have gs1 : sw_gs σ1 := by rw [← h3]; exact fun p q => by unfold sw_cp; split; exact hσ 22 _; exact hσ p q
    have k41 : σ1 41 = σ 41 := by subst h3; rfl
    have k42 : σ1 42 = σ 42 := by subst h3; rfl
    have k43 : σ1 43 = σ 43 := by subst h3; rfl
    have k44 : σ1 44 = σ 44 := by subst h3; rfl
    refine ⟨_, mm_copy σ1 gs1 3 i 0 j m (by decide) gi (by decide) gj gm (by rw [k43]; exact hz4), fun r2 σ2 q2 => ?_⟩
    rw [ts] at q2
    rw [tt] at q2
    rw [k41, k42, k43, k44, x2, x4] at q2
    rw [y2, y4] at q2
    rcases q2 with ⟨n1, n2, n3⟩ | ⟨n1, n2, n3⟩ | ⟨n1, n2, n3⟩ | ⟨n1, n2, n3⟩ | ⟨n1, n2, n3⟩
    · exfalso; omega
    · exfalso; omega
    · exfalso; omega
    · exfalso; omega
    · have gs2 : sw_gs σ2 := by rw [← n3]; exact sw_pg_gs (sw_pf_gs gs1 45 _ (fun k _ => hσ 44 _)) 44 _ _ (fun k _ => sw_pf_gs gs1 45 _ (fun k _ => hσ 44 _) 45 k)
      have gp : sw_gs (sw_rp σ 45 (σ2 45)) := fun p q => by
        unfold sw_rp
        split
        · exact gs2 45 q
        · exact hσ p q
      have Jp : sw_J N (sw_rp σ 45 (σ2 45)) (sw_rp σ 45 (σ2 45)) := sw_J_cong J gp gp hf (fun p q z1 z2 z3 z4 => if_neg (by omega)) (fun p q z1 z2 z3 z4 z5 z6 => if_neg z6)
      have hm : ∀ q, σ2 44 q = (if 60 * 0 + j.toNat ≤ q ∧ q < 60 * 0 + j.toNat + m.toNat then σ 22 (i.toNat + (q - (60 * 0 + j.toNat))) else σ 44 q) := fun q => by
        rw [← n3]
        unfold sw_pg
        by_cases zz : 60 * 0 + j.toNat ≤ q ∧ q < 60 * 0 + j.toNat + m.toNat
        · rw [if_pos (by omega), if_pos zz, sw_pf_in _ 45 _ (by omega), show (60 * (0 : Int) + j).toNat = 60 * 0 + j.toNat by omega]
          rw [show (60 * (3 : Int) + i + ((q - (60 * 0 + j.toNat) : Nat) : Int)).toNat = 60 * 3 + (i.toNat + (q - (60 * 0 + j.toNat))) by omega]
          exact x6 _ (by omega)
        · rw [if_neg (by omega), if_neg zz, sw_pf_row _ _ _ (by decide), k44]
      have hc : ∀ q, σ2 16 q = (if j.toNat ≤ q ∧ q < j.toNat + m.toNat then σ 22 (i.toNat + (q - j.toNat)) else σ 16 q) := fun q => by
        rw [← n3, sw_pg_row _ _ _ _ (by decide), sw_pf_row _ _ _ (by decide), ← h3]
        unfold sw_cp
        by_cases zz : j.toNat ≤ q ∧ q < j.toNat + m.toNat
        · rw [if_pos ⟨rfl, zz⟩, if_pos zz]
        · rw [if_neg (fun y => zz y.2), if_neg zz]
      refine ⟨_, h2, n2, sw_J_mono (N := N) (by omega) (sw_J_it0 Jp gs2 (fun p q z1 z2 => ?_) (fun q hq => ?_) (fun q hq => ?_))⟩
      · unfold sw_rp
        by_cases zz : p = 45
        · rw [if_pos zz, zz]
        · rw [if_neg zz, ← n3, sw_pg_row _ _ _ _ z2, sw_pf_row _ _ _ zz, ← h3]
          unfold sw_cp
          rw [if_neg (fun y => z1 y.1)]
      · rw [hm, hc]
        by_cases zz : j.toNat ≤ q ∧ q < j.toNat + m.toNat
        · rw [if_pos zz, if_pos (by omega), show 60 * 0 + q - (60 * 0 + j.toNat) = q - j.toNat by omega]
        · rw [if_neg zz, if_neg (by omega)]; exact y6 q hq
      · rw [hm, if_neg (by omega)]
        rfl
theorem st_copy31 (N : Int) (hN : 0 ≤ N ∧ N ≤ 900000) (σ : sw_S) (J : sw_J N σ σ) (i j m : Int) (gi : sw_g i) (gj : sw_g j) (gm : sw_g m) : sw_St M_X7_copy M_X8_copy [.inl 3, .inl i, .inl 1, .inl j, .inl m] N σ := by
  obtain ⟨⟨c, g0, w0, z0⟩, r0, l0, b0, s0⟩ := id J
  obtain ⟨hσ, hD, hV, hL, hpl, hspd, hbr, her, hmg, h61, h514, h513, h59, hro⟩ := id c
  obtain ⟨e0, e1, e10, e11, e12, e16, e17, e18, e19, e20, e32, e33, e39, er⟩ := id w0
  obtain ⟨e3, hz, hzz, hlm⟩ := id z0
  obtain ⟨hA, e2, hf, ⟨e7, hst, hsp⟩, e13⟩ := id r0
  obtain ⟨⟨el0, hl0⟩, ⟨el1, hl1⟩, ⟨ewt, hwt⟩, ⟨ekp, hkp⟩⟩ := id l0
  obtain ⟨efi, hsh⟩ := id s0
  obtain ⟨t0, t1, t2, t3⟩ := id hsh
  obtain ⟨x1, x2, x3, x4, x5, x6⟩ := id t3
  obtain ⟨y1, y2, y3, y4, y5, y6⟩ := id t1
  have ts : (3 : Int).toNat = 3 := rfl
  have tt : (1 : Int).toNat = 1 := rfl
  have hz4 : ∀ j : Nat, j < 4 → 0 ≤ σ 43 j ∧ σ 43 j ≤ 60 := fun j hj => by
    rcases (by omega : j = 0 ∨ j = 1 ∨ j = 2 ∨ j = 3) with rfl | rfl | rfl | rfl
    · rw [t0.2.2.2.1]; exact t0.2.2.2.2.1
    · rw [t1.2.2.2.1]; exact t1.2.2.2.2.1
    · rw [t2.2.2.2.1]; exact t2.2.2.2.2.1
    · rw [t3.2.2.2.1]; exact t3.2.2.2.2.1
  refine ⟨_, cc_copy31 σ hσ x5.1 x5.2 y5.1 y5.2 i j m gi gj gm, fun r1 σ1 q1 => ?_⟩
  rcases q1 with ⟨h1, h2, h3⟩ | ⟨h1, h2, h3⟩ | ⟨h1, h2, h3⟩ | ⟨h1, h2, h3⟩
  · have gs1 : sw_gs σ1 := by rw [← h3]; exact sw_gs_u hσ 0 9 (by decide)
    have k41 : σ1 41 = σ 41 := by subst h3; rfl
    have k42 : σ1 42 = σ 42 := by subst h3; rfl
    have k43 : σ1 43 = σ 43 := by subst h3; rfl
    have k44 : σ1 44 = σ 44 := by subst h3; rfl
    refine ⟨_, mm_copy σ1 gs1 3 i 1 j m (by decide) gi (by decide) gj gm (by rw [k43]; exact hz4), fun r2 σ2 q2 => ?_⟩
    rw [ts] at q2
    rw [tt] at q2
    rw [k41, k42, k43, k44, x2, x4] at q2
    rw [y2, y4] at q2
    rcases q2 with ⟨n1, n2, n3⟩ | ⟨n1, n2, n3⟩ | ⟨n1, n2, n3⟩ | ⟨n1, n2, n3⟩ | ⟨n1, n2, n3⟩
    · exfalso; omega
    · subst h3; subst n3; exact ⟨_, h2, n2, sw_J_mono (N := N) (by omega) ⟨⟨⟨(sw_gs_u (sw_gs_u hσ 0 9 (by decide)) 26 39 (by decide)), hD, hV, hL, hpl, hspd, hbr, her, hmg, h61, h514, h513, h59, hro⟩, (sw_gs_u (sw_gs_u hσ 0 9 (by decide)) 26 39 (by decide)), ⟨e0, e1, e10, e11, e12, e16, e17, e18, e19, e20, e32, e33, e39, er⟩, ⟨e3, hz, hzz, hlm⟩⟩, ⟨hA, e2, hf, ⟨e7, hst, hsp⟩, e13⟩, ⟨⟨el0, hl0⟩, ⟨el1, hl1⟩, ⟨ewt, hwt⟩, ⟨ekp, hkp⟩⟩, b0, ⟨rfl, hsh⟩⟩⟩
    · exfalso; omega
    · exfalso; omega
    · exfalso; omega
  · have gs1 : sw_gs σ1 := by rw [← h3]; exact sw_gs_u hσ 0 9 (by decide)
    have k41 : σ1 41 = σ 41 := by subst h3; rfl
    have k42 : σ1 42 = σ 42 := by subst h3; rfl
    have k43 : σ1 43 = σ 43 := by subst h3; rfl
    have k44 : σ1 44 = σ 44 := by subst h3; rfl
    refine ⟨_, mm_copy σ1 gs1 3 i 1 j m (by decide) gi (by decide) gj gm (by rw [k43]; exact hz4), fun r2 σ2 q2 => ?_⟩
    rw [ts] at q2
    rw [tt] at q2
    rw [k41, k42, k43, k44, x2, x4] at q2
    rw [y2, y4] at q2
    rcases q2 with ⟨n1, n2, n3⟩ | ⟨n1, n2, n3⟩ | ⟨n1, n2, n3⟩ | ⟨n1, n2, n3⟩ | ⟨n1, n2, n3⟩
    · exfalso; omega
    · exfalso; omega
    · subst h3; subst n3; exact ⟨_, h2, n2, sw_J_mono (N := N) (by omega) ⟨⟨⟨(sw_gs_u (sw_gs_u hσ 0 9 (by decide)) 26 39 (by decide)), hD, hV, hL, hpl, hspd, hbr, her, hmg, h61, h514, h513, h59, hro⟩, (sw_gs_u (sw_gs_u hσ 0 9 (by decide)) 26 39 (by decide)), ⟨e0, e1, e10, e11, e12, e16, e17, e18, e19, e20, e32, e33, e39, er⟩, ⟨e3, hz, hzz, hlm⟩⟩, ⟨hA, e2, hf, ⟨e7, hst, hsp⟩, e13⟩, ⟨⟨el0, hl0⟩, ⟨el1, hl1⟩, ⟨ewt, hwt⟩, ⟨ekp, hkp⟩⟩, b0, ⟨rfl, hsh⟩⟩⟩
    · exfalso; omega
    · exfalso; omega
  · have gs1 : sw_gs σ1 := by rw [← h3]; exact sw_gs_u hσ 0 9 (by decide)
    have k41 : σ1 41 = σ 41 := by subst h3; rfl
    have k42 : σ1 42 = σ 42 := by subst h3; rfl
    have k43 : σ1 43 = σ 43 := by subst h3; rfl
    have k44 : σ1 44 = σ 44 := by subst h3; rfl
    refine ⟨_, mm_copy σ1 gs1 3 i 1 j m (by decide) gi (by decide) gj gm (by rw [k43]; exact hz4), fun r2 σ2 q2 => ?_⟩
    rw [ts] at q2
    rw [tt] at q2
    rw [k41, k42, k43, k44, x2, x4] at q2
    rw [y2, y4] at q2
    rcases q2 with ⟨n1, n2, n3⟩ | ⟨n1, n2, n3⟩ | ⟨n1, n2, n3⟩ | ⟨n1, n2, n3⟩ | ⟨n1, n2, n3⟩
    · exfalso; omega
    · exfalso; omega
    · exfalso; omega
    · subst h3; subst n3; exact ⟨_, h2, n2, sw_J_mono (N := N) (by omega) ⟨⟨⟨(sw_gs_u (sw_gs_u hσ 0 9 (by decide)) 26 39 (by decide)), hD, hV, hL, hpl, hspd, hbr, her, hmg, h61, h514, h513, h59, hro⟩, (sw_gs_u (sw_gs_u hσ 0 9 (by decide)) 26 39 (by decide)), ⟨e0, e1, e10, e11, e12, e16, e17, e18, e19, e20, e32, e33, e39, er⟩, ⟨e3, hz, hzz, hlm⟩⟩, ⟨hA, e2, hf, ⟨e7, hst, hsp⟩, e13⟩, ⟨⟨el0, hl0⟩, ⟨el1, hl1⟩, ⟨ewt, hwt⟩, ⟨ekp, hkp⟩⟩, b0, ⟨rfl, hsh⟩⟩⟩
    · exfalso; omega
  · have gs1 : sw_gs σ1 := by rw [← h3]; exact fun p q => by unfold sw_cp; split; exact hσ 22 _; exact hσ p q
    have k41 : σ1 41 = σ 41 := by subst h3; rfl
    have k42 : σ1 42 = σ 42 := by subst h3; rfl
    have k43 : σ1 43 = σ 43 := by subst h3; rfl
    have k44 : σ1 44 = σ 44 := by subst h3; rfl
    refine ⟨_, mm_copy σ1 gs1 3 i 1 j m (by decide) gi (by decide) gj gm (by rw [k43]; exact hz4), fun r2 σ2 q2 => ?_⟩
    rw [ts] at q2
    rw [tt] at q2
    rw [k41, k42, k43, k44, x2, x4] at q2
    rw [y2, y4] at q2
    rcases q2 with ⟨n1, n2, n3⟩ | ⟨n1, n2, n3⟩ | ⟨n1, n2, n3⟩ | ⟨n1, n2, n3⟩ | ⟨n1, n2, n3⟩
    · exfalso; omega
    · exfalso; omega
    · exfalso; omega
    · exfalso; omega
    · have gs2 : sw_gs σ2 := by rw [← n3]; exact sw_pg_gs (sw_pf_gs gs1 45 _ (fun k _ => hσ 44 _)) 44 _ _ (fun k _ => sw_pf_gs gs1 45 _ (fun k _ => hσ 44 _) 45 k)
      have gp : sw_gs (sw_rp σ 45 (σ2 45)) := fun p q => by
        unfold sw_rp
        split
        · exact gs2 45 q
        · exact hσ p q
      have Jp : sw_J N (sw_rp σ 45 (σ2 45)) (sw_rp σ 45 (σ2 45)) := sw_J_cong J gp gp hf (fun p q z1 z2 z3 z4 => if_neg (by omega)) (fun p q z1 z2 z3 z4 z5 z6 => if_neg z6)
      have hm : ∀ q, σ2 44 q = (if 60 * 1 + j.toNat ≤ q ∧ q < 60 * 1 + j.toNat + m.toNat then σ 22 (i.toNat + (q - (60 * 1 + j.toNat))) else σ 44 q) := fun q => by
        rw [← n3]
        unfold sw_pg
        by_cases zz : 60 * 1 + j.toNat ≤ q ∧ q < 60 * 1 + j.toNat + m.toNat
        · rw [if_pos (by omega), if_pos zz, sw_pf_in _ 45 _ (by omega), show (60 * (1 : Int) + j).toNat = 60 * 1 + j.toNat by omega]
          rw [show (60 * (3 : Int) + i + ((q - (60 * 1 + j.toNat) : Nat) : Int)).toNat = 60 * 3 + (i.toNat + (q - (60 * 1 + j.toNat))) by omega]
          exact x6 _ (by omega)
        · rw [if_neg (by omega), if_neg zz, sw_pf_row _ _ _ (by decide), k44]
      have hc : ∀ q, σ2 18 q = (if j.toNat ≤ q ∧ q < j.toNat + m.toNat then σ 22 (i.toNat + (q - j.toNat)) else σ 18 q) := fun q => by
        rw [← n3, sw_pg_row _ _ _ _ (by decide), sw_pf_row _ _ _ (by decide), ← h3]
        unfold sw_cp
        by_cases zz : j.toNat ≤ q ∧ q < j.toNat + m.toNat
        · rw [if_pos ⟨rfl, zz⟩, if_pos zz]
        · rw [if_neg (fun y => zz y.2), if_neg zz]
      refine ⟨_, h2, n2, sw_J_mono (N := N) (by omega) (sw_J_it1 Jp gs2 (fun p q z1 z2 => ?_) (fun q hq => ?_) (fun q hq => ?_))⟩
      · unfold sw_rp
        by_cases zz : p = 45
        · rw [if_pos zz, zz]
        · rw [if_neg zz, ← n3, sw_pg_row _ _ _ _ z2, sw_pf_row _ _ _ zz, ← h3]
          unfold sw_cp
          rw [if_neg (fun y => z1 y.1)]
      · rw [hm, hc]
        by_cases zz : j.toNat ≤ q ∧ q < j.toNat + m.toNat
        · rw [if_pos zz, if_pos (by omega), show 60 * 1 + q - (60 * 1 + j.toNat) = q - j.toNat by omega]
        · rw [if_neg zz, if_neg (by omega)]; exact y6 q hq
      · rw [hm, if_neg (by omega)]
        rfl
theorem st_copy32 (N : Int) (hN : 0 ≤ N ∧ N ≤ 900000) (σ : sw_S) (J : sw_J N σ σ) (i j m : Int) (gi : sw_g i) (gj : sw_g j) (gm : sw_g m) : sw_St M_X7_copy M_X8_copy [.inl 3, .inl i, .inl 2, .inl j, .inl m] N σ := by
  obtain ⟨⟨c, g0, w0, z0⟩, r0, l0, b0, s0⟩ := id J
  obtain ⟨hσ, hD, hV, hL, hpl, hspd, hbr, her, hmg, h61, h514, h513, h59, hro⟩ := id c
  obtain ⟨e0, e1, e10, e11, e12, e16, e17, e18, e19, e20, e32, e33, e39, er⟩ := id w0
  obtain ⟨e3, hz, hzz, hlm⟩ := id z0
  obtain ⟨hA, e2, hf, ⟨e7, hst, hsp⟩, e13⟩ := id r0
  obtain ⟨⟨el0, hl0⟩, ⟨el1, hl1⟩, ⟨ewt, hwt⟩, ⟨ekp, hkp⟩⟩ := id l0
  obtain ⟨efi, hsh⟩ := id s0
  obtain ⟨t0, t1, t2, t3⟩ := id hsh
  obtain ⟨x1, x2, x3, x4, x5, x6⟩ := id t3
  obtain ⟨y1, y2, y3, y4, y5, y6⟩ := id t2
  have ts : (3 : Int).toNat = 3 := rfl
  have tt : (2 : Int).toNat = 2 := rfl
  have hz4 : ∀ j : Nat, j < 4 → 0 ≤ σ 43 j ∧ σ 43 j ≤ 60 := fun j hj => by
    rcases (by omega : j = 0 ∨ j = 1 ∨ j = 2 ∨ j = 3) with rfl | rfl | rfl | rfl
    · rw [t0.2.2.2.1]; exact t0.2.2.2.2.1
    · rw [t1.2.2.2.1]; exact t1.2.2.2.2.1
    · rw [t2.2.2.2.1]; exact t2.2.2.2.2.1
    · rw [t3.2.2.2.1]; exact t3.2.2.2.2.1
  refine ⟨_, cc_copy32 σ hσ x5.1 x5.2 y5.1 y5.2 i j m gi gj gm, fun r1 σ1 q1 => ?_⟩
  rcases q1 with ⟨h1, h2, h3⟩ | ⟨h1, h2, h3⟩ | ⟨h1, h2, h3⟩ | ⟨h1, h2, h3⟩
  · have gs1 : sw_gs σ1 := by rw [← h3]; exact sw_gs_u hσ 0 9 (by decide)
    have k41 : σ1 41 = σ 41 := by subst h3; rfl
    have k42 : σ1 42 = σ 42 := by subst h3; rfl
    have k43 : σ1 43 = σ 43 := by subst h3; rfl
    have k44 : σ1 44 = σ 44 := by subst h3; rfl
    refine ⟨_, mm_copy σ1 gs1 3 i 2 j m (by decide) gi (by decide) gj gm (by rw [k43]; exact hz4), fun r2 σ2 q2 => ?_⟩
    rw [ts] at q2
    rw [tt] at q2
    rw [k41, k42, k43, k44, x2, x4] at q2
    rw [y2, y4] at q2
    rcases q2 with ⟨n1, n2, n3⟩ | ⟨n1, n2, n3⟩ | ⟨n1, n2, n3⟩ | ⟨n1, n2, n3⟩ | ⟨n1, n2, n3⟩
    · exfalso; omega
    · subst h3; subst n3; exact ⟨_, h2, n2, sw_J_mono (N := N) (by omega) ⟨⟨⟨(sw_gs_u (sw_gs_u hσ 0 9 (by decide)) 26 39 (by decide)), hD, hV, hL, hpl, hspd, hbr, her, hmg, h61, h514, h513, h59, hro⟩, (sw_gs_u (sw_gs_u hσ 0 9 (by decide)) 26 39 (by decide)), ⟨e0, e1, e10, e11, e12, e16, e17, e18, e19, e20, e32, e33, e39, er⟩, ⟨e3, hz, hzz, hlm⟩⟩, ⟨hA, e2, hf, ⟨e7, hst, hsp⟩, e13⟩, ⟨⟨el0, hl0⟩, ⟨el1, hl1⟩, ⟨ewt, hwt⟩, ⟨ekp, hkp⟩⟩, b0, ⟨rfl, hsh⟩⟩⟩
    · exfalso; omega
    · exfalso; omega
    · exfalso; omega
  · have gs1 : sw_gs σ1 := by rw [← h3]; exact sw_gs_u hσ 0 9 (by decide)
    have k41 : σ1 41 = σ 41 := by subst h3; rfl
    have k42 : σ1 42 = σ 42 := by subst h3; rfl
    have k43 : σ1 43 = σ 43 := by subst h3; rfl
    have k44 : σ1 44 = σ 44 := by subst h3; rfl
    refine ⟨_, mm_copy σ1 gs1 3 i 2 j m (by decide) gi (by decide) gj gm (by rw [k43]; exact hz4), fun r2 σ2 q2 => ?_⟩
    rw [ts] at q2
    rw [tt] at q2
    rw [k41, k42, k43, k44, x2, x4] at q2
    rw [y2, y4] at q2
    rcases q2 with ⟨n1, n2, n3⟩ | ⟨n1, n2, n3⟩ | ⟨n1, n2, n3⟩ | ⟨n1, n2, n3⟩ | ⟨n1, n2, n3⟩
    · exfalso; omega
    · exfalso; omega
    · subst h3; subst n3; exact ⟨_, h2, n2, sw_J_mono (N := N) (by omega) ⟨⟨⟨(sw_gs_u (sw_gs_u hσ 0 9 (by decide)) 26 39 (by decide)), hD, hV, hL, hpl, hspd, hbr, her, hmg, h61, h514, h513, h59, hro⟩, (sw_gs_u (sw_gs_u hσ 0 9 (by decide)) 26 39 (by decide)), ⟨e0, e1, e10, e11, e12, e16, e17, e18, e19, e20, e32, e33, e39, er⟩, ⟨e3, hz, hzz, hlm⟩⟩, ⟨hA, e2, hf, ⟨e7, hst, hsp⟩, e13⟩, ⟨⟨el0, hl0⟩, ⟨el1, hl1⟩, ⟨ewt, hwt⟩, ⟨ekp, hkp⟩⟩, b0, ⟨rfl, hsh⟩⟩⟩
    · exfalso; omega
    · exfalso; omega
  · have gs1 : sw_gs σ1 := by rw [← h3]; exact sw_gs_u hσ 0 9 (by decide)
    have k41 : σ1 41 = σ 41 := by subst h3; rfl
    have k42 : σ1 42 = σ 42 := by subst h3; rfl
    have k43 : σ1 43 = σ 43 := by subst h3; rfl
    have k44 : σ1 44 = σ 44 := by subst h3; rfl
    refine ⟨_, mm_copy σ1 gs1 3 i 2 j m (by decide) gi (by decide) gj gm (by rw [k43]; exact hz4), fun r2 σ2 q2 => ?_⟩
    rw [ts] at q2
    rw [tt] at q2
    rw [k41, k42, k43, k44, x2, x4] at q2
    rw [y2, y4] at q2
    rcases q2 with ⟨n1, n2, n3⟩ | ⟨n1, n2, n3⟩ | ⟨n1, n2, n3⟩ | ⟨n1, n2, n3⟩ | ⟨n1, n2, n3⟩
    · exfalso; omega
    · exfalso; omega
    · exfalso; omega
    · subst h3; subst n3; exact ⟨_, h2, n2, sw_J_mono (N := N) (by omega) ⟨⟨⟨(sw_gs_u (sw_gs_u hσ 0 9 (by decide)) 26 39 (by decide)), hD, hV, hL, hpl, hspd, hbr, her, hmg, h61, h514, h513, h59, hro⟩, (sw_gs_u (sw_gs_u hσ 0 9 (by decide)) 26 39 (by decide)), ⟨e0, e1, e10, e11, e12, e16, e17, e18, e19, e20, e32, e33, e39, er⟩, ⟨e3, hz, hzz, hlm⟩⟩, ⟨hA, e2, hf, ⟨e7, hst, hsp⟩, e13⟩, ⟨⟨el0, hl0⟩, ⟨el1, hl1⟩, ⟨ewt, hwt⟩, ⟨ekp, hkp⟩⟩, b0, ⟨rfl, hsh⟩⟩⟩
    · exfalso; omega
  · have gs1 : sw_gs σ1 := by rw [← h3]; exact fun p q => by unfold sw_cp; split; exact hσ 22 _; exact hσ p q
    have k41 : σ1 41 = σ 41 := by subst h3; rfl
    have k42 : σ1 42 = σ 42 := by subst h3; rfl
    have k43 : σ1 43 = σ 43 := by subst h3; rfl
    have k44 : σ1 44 = σ 44 := by subst h3; rfl
    refine ⟨_, mm_copy σ1 gs1 3 i 2 j m (by decide) gi (by decide) gj gm (by rw [k43]; exact hz4), fun r2 σ2 q2 => ?_⟩
    rw [ts] at q2
    rw [tt] at q2
    rw [k41, k42, k43, k44, x2, x4] at q2
    rw [y2, y4] at q2
    rcases q2 with ⟨n1, n2, n3⟩ | ⟨n1, n2, n3⟩ | ⟨n1, n2, n3⟩ | ⟨n1, n2, n3⟩ | ⟨n1, n2, n3⟩
    · exfalso; omega
    · exfalso; omega
    · exfalso; omega
    · exfalso; omega
    · have gs2 : sw_gs σ2 := by rw [← n3]; exact sw_pg_gs (sw_pf_gs gs1 45 _ (fun k _ => hσ 44 _)) 44 _ _ (fun k _ => sw_pf_gs gs1 45 _ (fun k _ => hσ 44 _) 45 k)
      have gp : sw_gs (sw_rp σ 45 (σ2 45)) := fun p q => by
        unfold sw_rp
        split
        · exact gs2 45 q
        · exact hσ p q
      have Jp : sw_J N (sw_rp σ 45 (σ2 45)) (sw_rp σ 45 (σ2 45)) := sw_J_cong J gp gp hf (fun p q z1 z2 z3 z4 => if_neg (by omega)) (fun p q z1 z2 z3 z4 z5 z6 => if_neg z6)
      have hm : ∀ q, σ2 44 q = (if 60 * 2 + j.toNat ≤ q ∧ q < 60 * 2 + j.toNat + m.toNat then σ 22 (i.toNat + (q - (60 * 2 + j.toNat))) else σ 44 q) := fun q => by
        rw [← n3]
        unfold sw_pg
        by_cases zz : 60 * 2 + j.toNat ≤ q ∧ q < 60 * 2 + j.toNat + m.toNat
        · rw [if_pos (by omega), if_pos zz, sw_pf_in _ 45 _ (by omega), show (60 * (2 : Int) + j).toNat = 60 * 2 + j.toNat by omega]
          rw [show (60 * (3 : Int) + i + ((q - (60 * 2 + j.toNat) : Nat) : Int)).toNat = 60 * 3 + (i.toNat + (q - (60 * 2 + j.toNat))) by omega]
          exact x6 _ (by omega)
        · rw [if_neg (by omega), if_neg zz, sw_pf_row _ _ _ (by decide), k44]
      have hc : ∀ q, σ2 20 q = (if j.toNat ≤ q ∧ q < j.toNat + m.toNat then σ 22 (i.toNat + (q - j.toNat)) else σ 20 q) := fun q => by
        rw [← n3, sw_pg_row _ _ _ _ (by decide), sw_pf_row _ _ _ (by decide), ← h3]
        unfold sw_cp
        by_cases zz : j.toNat ≤ q ∧ q < j.toNat + m.toNat
        · rw [if_pos ⟨rfl, zz⟩, if_pos zz]
        · rw [if_neg (fun y => zz y.2), if_neg zz]
      refine ⟨_, h2, n2, sw_J_mono (N := N) (by omega) (sw_J_it2 Jp gs2 (fun p q z1 z2 => ?_) (fun q hq => ?_) (fun q hq => ?_))⟩
      · unfold sw_rp
        by_cases zz : p = 45
        · rw [if_pos zz, zz]
        · rw [if_neg zz, ← n3, sw_pg_row _ _ _ _ z2, sw_pf_row _ _ _ zz, ← h3]
          unfold sw_cp
          rw [if_neg (fun y => z1 y.1)]
      · rw [hm, hc]
        by_cases zz : j.toNat ≤ q ∧ q < j.toNat + m.toNat
        · rw [if_pos zz, if_pos (by omega), show 60 * 2 + q - (60 * 2 + j.toNat) = q - j.toNat by omega]
        · rw [if_neg zz, if_neg (by omega)]; exact y6 q hq
      · rw [hm, if_neg (by omega)]
        rfl
theorem st_copy33 (N : Int) (hN : 0 ≤ N ∧ N ≤ 900000) (σ : sw_S) (J : sw_J N σ σ) (i j m : Int) (gi : sw_g i) (gj : sw_g j) (gm : sw_g m) : sw_St M_X7_copy M_X8_copy [.inl 3, .inl i, .inl 3, .inl j, .inl m] N σ := by
  obtain ⟨⟨c, g0, w0, z0⟩, r0, l0, b0, s0⟩ := id J
  obtain ⟨hσ, hD, hV, hL, hpl, hspd, hbr, her, hmg, h61, h514, h513, h59, hro⟩ := id c
  obtain ⟨e0, e1, e10, e11, e12, e16, e17, e18, e19, e20, e32, e33, e39, er⟩ := id w0
  obtain ⟨e3, hz, hzz, hlm⟩ := id z0
  obtain ⟨hA, e2, hf, ⟨e7, hst, hsp⟩, e13⟩ := id r0
  obtain ⟨⟨el0, hl0⟩, ⟨el1, hl1⟩, ⟨ewt, hwt⟩, ⟨ekp, hkp⟩⟩ := id l0
  obtain ⟨efi, hsh⟩ := id s0
  obtain ⟨t0, t1, t2, t3⟩ := id hsh
  obtain ⟨x1, x2, x3, x4, x5, x6⟩ := id t3
  obtain ⟨y1, y2, y3, y4, y5, y6⟩ := id t3
  have ts : (3 : Int).toNat = 3 := rfl
  have tt : (3 : Int).toNat = 3 := rfl
  have hz4 : ∀ j : Nat, j < 4 → 0 ≤ σ 43 j ∧ σ 43 j ≤ 60 := fun j hj => by
    rcases (by omega : j = 0 ∨ j = 1 ∨ j = 2 ∨ j = 3) with rfl | rfl | rfl | rfl
    · rw [t0.2.2.2.1]; exact t0.2.2.2.2.1
    · rw [t1.2.2.2.1]; exact t1.2.2.2.2.1
    · rw [t2.2.2.2.1]; exact t2.2.2.2.2.1
    · rw [t3.2.2.2.1]; exact t3.2.2.2.2.1
  refine ⟨_, cc_copy33 σ hσ x5.1 x5.2 y5.1 y5.2 i j m gi gj gm, fun r1 σ1 q1 => ?_⟩
  rcases q1 with ⟨h1, h2, h3⟩ | ⟨h1, h2, h3⟩ | ⟨h1, h2, h3⟩ | ⟨h1, h2, h3⟩
  · have gs1 : sw_gs σ1 := by rw [← h3]; exact sw_gs_u hσ 0 9 (by decide)
    have k41 : σ1 41 = σ 41 := by subst h3; rfl
    have k42 : σ1 42 = σ 42 := by subst h3; rfl
    have k43 : σ1 43 = σ 43 := by subst h3; rfl
    have k44 : σ1 44 = σ 44 := by subst h3; rfl
    refine ⟨_, mm_copy σ1 gs1 3 i 3 j m (by decide) gi (by decide) gj gm (by rw [k43]; exact hz4), fun r2 σ2 q2 => ?_⟩
    rw [ts] at q2
    rw [k41, k42, k43, k44, x2, x4] at q2
    rcases q2 with ⟨n1, n2, n3⟩ | ⟨n1, n2, n3⟩ | ⟨n1, n2, n3⟩ | ⟨n1, n2, n3⟩ | ⟨n1, n2, n3⟩
    · exfalso; omega
    · subst h3; subst n3; exact ⟨_, h2, n2, sw_J_mono (N := N) (by omega) ⟨⟨⟨(sw_gs_u (sw_gs_u hσ 0 9 (by decide)) 26 39 (by decide)), hD, hV, hL, hpl, hspd, hbr, her, hmg, h61, h514, h513, h59, hro⟩, (sw_gs_u (sw_gs_u hσ 0 9 (by decide)) 26 39 (by decide)), ⟨e0, e1, e10, e11, e12, e16, e17, e18, e19, e20, e32, e33, e39, er⟩, ⟨e3, hz, hzz, hlm⟩⟩, ⟨hA, e2, hf, ⟨e7, hst, hsp⟩, e13⟩, ⟨⟨el0, hl0⟩, ⟨el1, hl1⟩, ⟨ewt, hwt⟩, ⟨ekp, hkp⟩⟩, b0, ⟨rfl, hsh⟩⟩⟩
    · exfalso; omega
    · exfalso; omega
    · exfalso; omega
  · have gs1 : sw_gs σ1 := by rw [← h3]; exact sw_gs_u hσ 0 9 (by decide)
    have k41 : σ1 41 = σ 41 := by subst h3; rfl
    have k42 : σ1 42 = σ 42 := by subst h3; rfl
    have k43 : σ1 43 = σ 43 := by subst h3; rfl
    have k44 : σ1 44 = σ 44 := by subst h3; rfl
    refine ⟨_, mm_copy σ1 gs1 3 i 3 j m (by decide) gi (by decide) gj gm (by rw [k43]; exact hz4), fun r2 σ2 q2 => ?_⟩
    rw [ts] at q2
    rw [k41, k42, k43, k44, x2, x4] at q2
    rcases q2 with ⟨n1, n2, n3⟩ | ⟨n1, n2, n3⟩ | ⟨n1, n2, n3⟩ | ⟨n1, n2, n3⟩ | ⟨n1, n2, n3⟩
    · exfalso; omega
    · exfalso; omega
    · subst h3; subst n3; exact ⟨_, h2, n2, sw_J_mono (N := N) (by omega) ⟨⟨⟨(sw_gs_u (sw_gs_u hσ 0 9 (by decide)) 26 39 (by decide)), hD, hV, hL, hpl, hspd, hbr, her, hmg, h61, h514, h513, h59, hro⟩, (sw_gs_u (sw_gs_u hσ 0 9 (by decide)) 26 39 (by decide)), ⟨e0, e1, e10, e11, e12, e16, e17, e18, e19, e20, e32, e33, e39, er⟩, ⟨e3, hz, hzz, hlm⟩⟩, ⟨hA, e2, hf, ⟨e7, hst, hsp⟩, e13⟩, ⟨⟨el0, hl0⟩, ⟨el1, hl1⟩, ⟨ewt, hwt⟩, ⟨ekp, hkp⟩⟩, b0, ⟨rfl, hsh⟩⟩⟩
    · exfalso; omega
    · exfalso; omega
  · have gs1 : sw_gs σ1 := by rw [← h3]; exact sw_gs_u hσ 0 9 (by decide)
    have k41 : σ1 41 = σ 41 := by subst h3; rfl
    have k42 : σ1 42 = σ 42 := by subst h3; rfl
    have k43 : σ1 43 = σ 43 := by subst h3; rfl
    have k44 : σ1 44 = σ 44 := by subst h3; rfl
    refine ⟨_, mm_copy σ1 gs1 3 i 3 j m (by decide) gi (by decide) gj gm (by rw [k43]; exact hz4), fun r2 σ2 q2 => ?_⟩
    rw [ts] at q2
    rw [k41, k42, k43, k44, x2, x4] at q2
    rcases q2 with ⟨n1, n2, n3⟩ | ⟨n1, n2, n3⟩ | ⟨n1, n2, n3⟩ | ⟨n1, n2, n3⟩ | ⟨n1, n2, n3⟩
    · exfalso; omega
    · exfalso; omega
    · exfalso; omega
    · subst h3; subst n3; exact ⟨_, h2, n2, sw_J_mono (N := N) (by omega) ⟨⟨⟨(sw_gs_u (sw_gs_u hσ 0 9 (by decide)) 26 39 (by decide)), hD, hV, hL, hpl, hspd, hbr, her, hmg, h61, h514, h513, h59, hro⟩, (sw_gs_u (sw_gs_u hσ 0 9 (by decide)) 26 39 (by decide)), ⟨e0, e1, e10, e11, e12, e16, e17, e18, e19, e20, e32, e33, e39, er⟩, ⟨e3, hz, hzz, hlm⟩⟩, ⟨hA, e2, hf, ⟨e7, hst, hsp⟩, e13⟩, ⟨⟨el0, hl0⟩, ⟨el1, hl1⟩, ⟨ewt, hwt⟩, ⟨ekp, hkp⟩⟩, b0, ⟨rfl, hsh⟩⟩⟩
    · exfalso; omega
  · have gs1 : sw_gs σ1 := by rw [← h3]; exact fun p q => by unfold sw_cp; split; exact hσ 22 _; exact hσ p q
    have k41 : σ1 41 = σ 41 := by subst h3; rfl
    have k42 : σ1 42 = σ 42 := by subst h3; rfl
    have k43 : σ1 43 = σ 43 := by subst h3; rfl
    have k44 : σ1 44 = σ 44 := by subst h3; rfl
    refine ⟨_, mm_copy σ1 gs1 3 i 3 j m (by decide) gi (by decide) gj gm (by rw [k43]; exact hz4), fun r2 σ2 q2 => ?_⟩
    rw [ts] at q2
    rw [k41, k42, k43, k44, x2, x4] at q2
    rcases q2 with ⟨n1, n2, n3⟩ | ⟨n1, n2, n3⟩ | ⟨n1, n2, n3⟩ | ⟨n1, n2, n3⟩ | ⟨n1, n2, n3⟩
    · exfalso; omega
    · exfalso; omega
    · exfalso; omega
    · exfalso; omega
    · have gs2 : sw_gs σ2 := by rw [← n3]; exact sw_pg_gs (sw_pf_gs gs1 45 _ (fun k _ => hσ 44 _)) 44 _ _ (fun k _ => sw_pf_gs gs1 45 _ (fun k _ => hσ 44 _) 45 k)
      have gp : sw_gs (sw_rp σ 45 (σ2 45)) := fun p q => by
        unfold sw_rp
        split
        · exact gs2 45 q
        · exact hσ p q
      have Jp : sw_J N (sw_rp σ 45 (σ2 45)) (sw_rp σ 45 (σ2 45)) := sw_J_cong J gp gp hf (fun p q z1 z2 z3 z4 => if_neg (by omega)) (fun p q z1 z2 z3 z4 z5 z6 => if_neg z6)
      have hm : ∀ q, σ2 44 q = (if 60 * 3 + j.toNat ≤ q ∧ q < 60 * 3 + j.toNat + m.toNat then σ 22 (i.toNat + (q - (60 * 3 + j.toNat))) else σ 44 q) := fun q => by
        rw [← n3]
        unfold sw_pg
        by_cases zz : 60 * 3 + j.toNat ≤ q ∧ q < 60 * 3 + j.toNat + m.toNat
        · rw [if_pos (by omega), if_pos zz, sw_pf_in _ 45 _ (by omega), show (60 * (3 : Int) + j).toNat = 60 * 3 + j.toNat by omega]
          rw [show (60 * (3 : Int) + i + ((q - (60 * 3 + j.toNat) : Nat) : Int)).toNat = 60 * 3 + (i.toNat + (q - (60 * 3 + j.toNat))) by omega]
          exact x6 _ (by omega)
        · rw [if_neg (by omega), if_neg zz, sw_pf_row _ _ _ (by decide), k44]
      have hc : ∀ q, σ2 22 q = (if j.toNat ≤ q ∧ q < j.toNat + m.toNat then σ 22 (i.toNat + (q - j.toNat)) else σ 22 q) := fun q => by
        rw [← n3, sw_pg_row _ _ _ _ (by decide), sw_pf_row _ _ _ (by decide), ← h3]
        unfold sw_cp
        by_cases zz : j.toNat ≤ q ∧ q < j.toNat + m.toNat
        · rw [if_pos ⟨rfl, zz⟩, if_pos zz]
        · rw [if_neg (fun y => zz y.2), if_neg zz]
      refine ⟨_, h2, n2, sw_J_mono (N := N) (by omega) (sw_J_it3 Jp gs2 (fun p q z1 z2 => ?_) (fun q hq => ?_) (fun q hq => ?_))⟩
      · unfold sw_rp
        by_cases zz : p = 45
        · rw [if_pos zz, zz]
        · rw [if_neg zz, ← n3, sw_pg_row _ _ _ _ z2, sw_pf_row _ _ _ zz, ← h3]
          unfold sw_cp
          rw [if_neg (fun y => z1 y.1)]
      · rw [hm, hc]
        by_cases zz : j.toNat ≤ q ∧ q < j.toNat + m.toNat
        · rw [if_pos zz, if_pos (by omega), show 60 * 3 + q - (60 * 3 + j.toNat) = q - j.toNat by omega]
        · rw [if_neg zz, if_neg (by omega)]; exact y6 q hq
      · rw [hm, if_neg (by omega)]
        rfl
theorem st_sheet (N : Int) (hN : 0 ≤ N ∧ N ≤ 900000) (σ : sw_S) (J : sw_J N σ σ) (s f k : Int) (gs : sw_g s) (gf : sw_g f) (gk : sw_g k) : sw_St M_X7_sheet M_X8_sheet [.inl s, .inl f, .inl k] N σ := by
  obtain ⟨⟨c, g0, w0, z0⟩, r0, l0, b0, s0⟩ := id J
  obtain ⟨hσ, hD, hV, hL, hpl, hspd, hbr, her, hmg, h61, h514, h513, h59, hro⟩ := id c
  obtain ⟨e0, e1, e10, e11, e12, e16, e17, e18, e19, e20, e32, e33, e39, er⟩ := id w0
  obtain ⟨e3, hz, hzz, hlm⟩ := id z0
  obtain ⟨hA, e2, hf, ⟨e7, hst, hsp⟩, e13⟩ := id r0
  obtain ⟨⟨el0, hl0⟩, ⟨el1, hl1⟩, ⟨ewt, hwt⟩, ⟨ekp, hkp⟩⟩ := id l0
  obtain ⟨efi, hsh⟩ := id s0
  obtain ⟨t0, t1, t2, t3⟩ := id hsh
  have hz4 : ∀ j : Nat, j < 4 → 0 ≤ σ 43 j ∧ σ 43 j ≤ 60 := fun j hj => by
    rcases (by omega : j = 0 ∨ j = 1 ∨ j = 2 ∨ j = 3) with rfl | rfl | rfl | rfl
    · rw [t0.2.2.2.1]; exact t0.2.2.2.2.1
    · rw [t1.2.2.2.1]; exact t1.2.2.2.2.1
    · rw [t2.2.2.2.1]; exact t2.2.2.2.2.1
    · rw [t3.2.2.2.1]; exact t3.2.2.2.2.1
  by_cases hs : 0 ≤ s ∧ s ≤ 3
  · rcases (by omega : s = 0 ∨ s = 1 ∨ s = 2 ∨ s = 3) with rfl | rfl | rfl | rfl
    · exact st_sheet0 N hN σ J f k gf gk
    · exact st_sheet1 N hN σ J f k gf gk
    · exact st_sheet2 N hN σ J f k gf gk
    · exact st_sheet3 N hN σ J f k gf gk
  · refine ⟨_, cc_sheetB σ s gs hs f k gf gk, fun r1 σ1 q1 => ?_⟩
    obtain ⟨h2, h3⟩ := q1
    subst h3
    refine ⟨_, mm_sheet σ s gs f k gf gk, fun r2 σ2 q2 => ?_⟩
    rcases q2 with ⟨m1, m2, m3⟩ | ⟨m1, m2⟩ | ⟨m1, m2⟩
    · subst m3; exact ⟨_, h2, m2, sw_J_mono (N := N) (by omega) J⟩
    · exfalso; omega
    · exfalso; omega
theorem st_lose (N : Int) (hN : 0 ≤ N ∧ N ≤ 900000) (σ : sw_S) (J : sw_J N σ σ) (s : Int) (gs : sw_g s) : sw_St M_X7_lose M_X8_lose [.inl s] N σ := by
  obtain ⟨⟨c, g0, w0, z0⟩, r0, l0, b0, s0⟩ := id J
  obtain ⟨hσ, hD, hV, hL, hpl, hspd, hbr, her, hmg, h61, h514, h513, h59, hro⟩ := id c
  obtain ⟨e0, e1, e10, e11, e12, e16, e17, e18, e19, e20, e32, e33, e39, er⟩ := id w0
  obtain ⟨e3, hz, hzz, hlm⟩ := id z0
  obtain ⟨hA, e2, hf, ⟨e7, hst, hsp⟩, e13⟩ := id r0
  obtain ⟨⟨el0, hl0⟩, ⟨el1, hl1⟩, ⟨ewt, hwt⟩, ⟨ekp, hkp⟩⟩ := id l0
  obtain ⟨efi, hsh⟩ := id s0
  obtain ⟨t0, t1, t2, t3⟩ := id hsh
  have hz4 : ∀ j : Nat, j < 4 → 0 ≤ σ 43 j ∧ σ 43 j ≤ 60 := fun j hj => by
    rcases (by omega : j = 0 ∨ j = 1 ∨ j = 2 ∨ j = 3) with rfl | rfl | rfl | rfl
    · rw [t0.2.2.2.1]; exact t0.2.2.2.2.1
    · rw [t1.2.2.2.1]; exact t1.2.2.2.2.1
    · rw [t2.2.2.2.1]; exact t2.2.2.2.2.1
    · rw [t3.2.2.2.1]; exact t3.2.2.2.2.1
  by_cases hs : 0 ≤ s ∧ s ≤ 3
  · rcases (by omega : s = 0 ∨ s = 1 ∨ s = 2 ∨ s = 3) with rfl | rfl | rfl | rfl
    · exact st_lose0 N hN σ J  
    · exact st_lose1 N hN σ J  
    · exact st_lose2 N hN σ J  
    · exact st_lose3 N hN σ J  
  · refine ⟨_, cc_loseB σ s gs hs  , fun r1 σ1 q1 => ?_⟩
    obtain ⟨h2, h3⟩ := q1
    subst h3
    refine ⟨_, mm_lose σ hσ s gs, fun r2 σ2 q2 => ?_⟩
    rcases q2 with ⟨m1, m2, m3⟩ | ⟨m1, m2⟩ | ⟨m1, m2⟩
    · subst m3; exact ⟨_, h2, m2, sw_J_mono (N := N) (by omega) J⟩
    · exfalso; omega
    · exfalso; omega
theorem st_put (N : Int) (hN : 0 ≤ N ∧ N ≤ 900000) (σ : sw_S) (J : sw_J N σ σ) (s f i v : Int) (gs : sw_g s) (gf : sw_g f) (gi : sw_g i) (gv : sw_g v) : sw_St M_X7_put M_X8_put [.inl s, .inl f, .inl i, .inl v] N σ := by
  obtain ⟨⟨c, g0, w0, z0⟩, r0, l0, b0, s0⟩ := id J
  obtain ⟨hσ, hD, hV, hL, hpl, hspd, hbr, her, hmg, h61, h514, h513, h59, hro⟩ := id c
  obtain ⟨e0, e1, e10, e11, e12, e16, e17, e18, e19, e20, e32, e33, e39, er⟩ := id w0
  obtain ⟨e3, hz, hzz, hlm⟩ := id z0
  obtain ⟨hA, e2, hf, ⟨e7, hst, hsp⟩, e13⟩ := id r0
  obtain ⟨⟨el0, hl0⟩, ⟨el1, hl1⟩, ⟨ewt, hwt⟩, ⟨ekp, hkp⟩⟩ := id l0
  obtain ⟨efi, hsh⟩ := id s0
  obtain ⟨t0, t1, t2, t3⟩ := id hsh
  have hz4 : ∀ j : Nat, j < 4 → 0 ≤ σ 43 j ∧ σ 43 j ≤ 60 := fun j hj => by
    rcases (by omega : j = 0 ∨ j = 1 ∨ j = 2 ∨ j = 3) with rfl | rfl | rfl | rfl
    · rw [t0.2.2.2.1]; exact t0.2.2.2.2.1
    · rw [t1.2.2.2.1]; exact t1.2.2.2.2.1
    · rw [t2.2.2.2.1]; exact t2.2.2.2.2.1
    · rw [t3.2.2.2.1]; exact t3.2.2.2.2.1
  by_cases hs : 0 ≤ s ∧ s ≤ 3
  · rcases (by omega : s = 0 ∨ s = 1 ∨ s = 2 ∨ s = 3) with rfl | rfl | rfl | rfl
    · exact st_put0 N hN σ J f i v gf gi gv
    · exact st_put1 N hN σ J f i v gf gi gv
    · exact st_put2 N hN σ J f i v gf gi gv
    · exact st_put3 N hN σ J f i v gf gi gv
  · refine ⟨_, cc_putB σ s gs hs f i v gf gi gv, fun r1 σ1 q1 => ?_⟩
    obtain ⟨h2, h3⟩ := q1
    subst h3
    refine ⟨_, mm_put σ hσ s gs hz4 f i v gf gi gv, fun r2 σ2 q2 => ?_⟩
    rcases q2 with ⟨m1, m2, m3⟩ | ⟨m1, m2⟩
    · subst m3; exact ⟨_, h2, m2, sw_J_mono (N := N) (by omega) J⟩
    · exfalso; omega
theorem st_get (N : Int) (hN : 0 ≤ N ∧ N ≤ 900000) (σ : sw_S) (J : sw_J N σ σ) (s f i : Int) (gs : sw_g s) (gf : sw_g f) (gi : sw_g i) : sw_St M_X7_get M_X8_get [.inl s, .inl f, .inl i] N σ := by
  obtain ⟨⟨c, g0, w0, z0⟩, r0, l0, b0, s0⟩ := id J
  obtain ⟨hσ, hD, hV, hL, hpl, hspd, hbr, her, hmg, h61, h514, h513, h59, hro⟩ := id c
  obtain ⟨e0, e1, e10, e11, e12, e16, e17, e18, e19, e20, e32, e33, e39, er⟩ := id w0
  obtain ⟨e3, hz, hzz, hlm⟩ := id z0
  obtain ⟨hA, e2, hf, ⟨e7, hst, hsp⟩, e13⟩ := id r0
  obtain ⟨⟨el0, hl0⟩, ⟨el1, hl1⟩, ⟨ewt, hwt⟩, ⟨ekp, hkp⟩⟩ := id l0
  obtain ⟨efi, hsh⟩ := id s0
  obtain ⟨t0, t1, t2, t3⟩ := id hsh
  have hz4 : ∀ j : Nat, j < 4 → 0 ≤ σ 43 j ∧ σ 43 j ≤ 60 := fun j hj => by
    rcases (by omega : j = 0 ∨ j = 1 ∨ j = 2 ∨ j = 3) with rfl | rfl | rfl | rfl
    · rw [t0.2.2.2.1]; exact t0.2.2.2.2.1
    · rw [t1.2.2.2.1]; exact t1.2.2.2.2.1
    · rw [t2.2.2.2.1]; exact t2.2.2.2.2.1
    · rw [t3.2.2.2.1]; exact t3.2.2.2.2.1
  by_cases hs : 0 ≤ s ∧ s ≤ 3
  · rcases (by omega : s = 0 ∨ s = 1 ∨ s = 2 ∨ s = 3) with rfl | rfl | rfl | rfl
    · exact st_get0 N hN σ J f i gf gi
    · exact st_get1 N hN σ J f i gf gi
    · exact st_get2 N hN σ J f i gf gi
    · exact st_get3 N hN σ J f i gf gi
  · refine ⟨_, cc_getB σ s gs hs f i gf gi, fun r1 σ1 q1 => ?_⟩
    obtain ⟨h2, h3⟩ := q1
    subst h3
    refine ⟨_, mm_get σ hσ s gs hz4 f i gf gi, fun r2 σ2 q2 => ?_⟩
    rcases q2 with ⟨m1, m2, m3⟩ | ⟨m1, m2⟩
    · subst m3; exact ⟨_, h2, m2, sw_J_mono (N := N) (by omega) J⟩
    · exfalso; omega
theorem st_read (N : Int) (hN : 0 ≤ N ∧ N ≤ 900000) (σ : sw_S) (J : sw_J N σ σ) (s : Int) (gs : sw_g s) : sw_St M_X7_read M_X8_read [.inl s] N σ := by
  obtain ⟨⟨c, g0, w0, z0⟩, r0, l0, b0, s0⟩ := id J
  obtain ⟨hσ, hD, hV, hL, hpl, hspd, hbr, her, hmg, h61, h514, h513, h59, hro⟩ := id c
  obtain ⟨e0, e1, e10, e11, e12, e16, e17, e18, e19, e20, e32, e33, e39, er⟩ := id w0
  obtain ⟨e3, hz, hzz, hlm⟩ := id z0
  obtain ⟨hA, e2, hf, ⟨e7, hst, hsp⟩, e13⟩ := id r0
  obtain ⟨⟨el0, hl0⟩, ⟨el1, hl1⟩, ⟨ewt, hwt⟩, ⟨ekp, hkp⟩⟩ := id l0
  obtain ⟨efi, hsh⟩ := id s0
  obtain ⟨t0, t1, t2, t3⟩ := id hsh
  have hz4 : ∀ j : Nat, j < 4 → 0 ≤ σ 43 j ∧ σ 43 j ≤ 60 := fun j hj => by
    rcases (by omega : j = 0 ∨ j = 1 ∨ j = 2 ∨ j = 3) with rfl | rfl | rfl | rfl
    · rw [t0.2.2.2.1]; exact t0.2.2.2.2.1
    · rw [t1.2.2.2.1]; exact t1.2.2.2.2.1
    · rw [t2.2.2.2.1]; exact t2.2.2.2.2.1
    · rw [t3.2.2.2.1]; exact t3.2.2.2.2.1
  by_cases hs : 0 ≤ s ∧ s ≤ 3
  · rcases (by omega : s = 0 ∨ s = 1 ∨ s = 2 ∨ s = 3) with rfl | rfl | rfl | rfl
    · exact st_read0 N hN σ J  
    · exact st_read1 N hN σ J  
    · exact st_read2 N hN σ J  
    · exact st_read3 N hN σ J  
  · refine ⟨_, cc_readB σ s gs hs  , fun r1 σ1 q1 => ?_⟩
    obtain ⟨h2, h3⟩ := q1
    subst h3
    refine ⟨_, mm_read σ hσ s gs hz4, fun r2 σ2 q2 => ?_⟩
    rcases q2 with ⟨m1, m2, m3⟩ | ⟨m1, m2⟩ | ⟨m1, m2⟩
    · subst m3; exact ⟨_, h2, m2, sw_J_mono (N := N) (by omega) J⟩
    · exfalso; omega
    · exfalso; omega
theorem st_write (N : Int) (hN : 0 ≤ N ∧ N ≤ 900000) (σ : sw_S) (J : sw_J N σ σ) (s w : Int) (gs : sw_g s) (gw : sw_g w) : sw_St M_X7_write M_X8_write [.inl s, .inl w] N σ := by
  obtain ⟨⟨c, g0, w0, z0⟩, r0, l0, b0, s0⟩ := id J
  obtain ⟨hσ, hD, hV, hL, hpl, hspd, hbr, her, hmg, h61, h514, h513, h59, hro⟩ := id c
  obtain ⟨e0, e1, e10, e11, e12, e16, e17, e18, e19, e20, e32, e33, e39, er⟩ := id w0
  obtain ⟨e3, hz, hzz, hlm⟩ := id z0
  obtain ⟨hA, e2, hf, ⟨e7, hst, hsp⟩, e13⟩ := id r0
  obtain ⟨⟨el0, hl0⟩, ⟨el1, hl1⟩, ⟨ewt, hwt⟩, ⟨ekp, hkp⟩⟩ := id l0
  obtain ⟨efi, hsh⟩ := id s0
  obtain ⟨t0, t1, t2, t3⟩ := id hsh
  have hz4 : ∀ j : Nat, j < 4 → 0 ≤ σ 43 j ∧ σ 43 j ≤ 60 := fun j hj => by
    rcases (by omega : j = 0 ∨ j = 1 ∨ j = 2 ∨ j = 3) with rfl | rfl | rfl | rfl
    · rw [t0.2.2.2.1]; exact t0.2.2.2.2.1
    · rw [t1.2.2.2.1]; exact t1.2.2.2.2.1
    · rw [t2.2.2.2.1]; exact t2.2.2.2.2.1
    · rw [t3.2.2.2.1]; exact t3.2.2.2.2.1
  by_cases hs : 0 ≤ s ∧ s ≤ 3
  · rcases (by omega : s = 0 ∨ s = 1 ∨ s = 2 ∨ s = 3) with rfl | rfl | rfl | rfl
    · exact st_write0 N hN σ J w gw
    · exact st_write1 N hN σ J w gw
    · exact st_write2 N hN σ J w gw
    · exact st_write3 N hN σ J w gw
  · refine ⟨_, cc_writeB σ s gs hs w gw, fun r1 σ1 q1 => ?_⟩
    obtain ⟨h2, h3⟩ := q1
    subst h3
    refine ⟨_, mm_write σ hσ s gs hz4 (by omega) w gw, fun r2 σ2 q2 => ?_⟩
    rcases q2 with ⟨m1, m2, m3⟩ | ⟨m1, m2⟩ | ⟨m1, m2⟩
    · subst m3; exact ⟨_, h2, m2, sw_J_mono (N := N) (by omega) J⟩
    · exfalso; omega
    · exfalso; omega
theorem st_plan (N : Int) (hN : 0 ≤ N ∧ N ≤ 900000) (σ : sw_S) (J : sw_J N σ σ) (s q : Int) (gs : sw_g s) (gq : sw_g q) : sw_St M_X7_plan M_X8_plan [.inl s, .inl q] N σ := by
  obtain ⟨⟨c, g0, w0, z0⟩, r0, l0, b0, s0⟩ := id J
  obtain ⟨hσ, hD, hV, hL, hpl, hspd, hbr, her, hmg, h61, h514, h513, h59, hro⟩ := id c
  obtain ⟨e0, e1, e10, e11, e12, e16, e17, e18, e19, e20, e32, e33, e39, er⟩ := id w0
  obtain ⟨e3, hz, hzz, hlm⟩ := id z0
  obtain ⟨hA, e2, hf, ⟨e7, hst, hsp⟩, e13⟩ := id r0
  obtain ⟨⟨el0, hl0⟩, ⟨el1, hl1⟩, ⟨ewt, hwt⟩, ⟨ekp, hkp⟩⟩ := id l0
  obtain ⟨efi, hsh⟩ := id s0
  obtain ⟨t0, t1, t2, t3⟩ := id hsh
  have hz4 : ∀ j : Nat, j < 4 → 0 ≤ σ 43 j ∧ σ 43 j ≤ 60 := fun j hj => by
    rcases (by omega : j = 0 ∨ j = 1 ∨ j = 2 ∨ j = 3) with rfl | rfl | rfl | rfl
    · rw [t0.2.2.2.1]; exact t0.2.2.2.2.1
    · rw [t1.2.2.2.1]; exact t1.2.2.2.2.1
    · rw [t2.2.2.2.1]; exact t2.2.2.2.2.1
    · rw [t3.2.2.2.1]; exact t3.2.2.2.2.1
  by_cases hs : 0 ≤ s ∧ s ≤ 3
  · rcases (by omega : s = 0 ∨ s = 1 ∨ s = 2 ∨ s = 3) with rfl | rfl | rfl | rfl
    · exact st_plan0 N hN σ J q gq
    · exact st_plan1 N hN σ J q gq
    · exact st_plan2 N hN σ J q gq
    · exact st_plan3 N hN σ J q gq
  · refine ⟨_, cc_planB σ s gs hs q gq, fun r1 σ1 q1 => ?_⟩
    obtain ⟨h2, h3⟩ := q1
    subst h3
    refine ⟨_, mm_plan σ hσ (by omega) (by omega) (by omega) (by omega) (σ 2) (fun j hj => by exact (hlm j (by omega)).symm) (fun x x1 x2 => by exact (hL x x1 (by omega)).1) (by omega) s gs hz4 q gq, fun r2 σ2 q2 => ?_⟩
    rcases q2 with ⟨m1, m2, m3⟩ | ⟨m1, m2⟩ | ⟨m1, m2⟩ | ⟨m1, m2⟩
    · subst m3; exact ⟨_, h2, m2, sw_J_mono (N := N) (by omega) J⟩
    · exfalso; omega
    · exfalso; omega
    · exfalso; omega
theorem st_check (N : Int) (hN : 0 ≤ N ∧ N ≤ 900000) (σ : sw_S) (J : sw_J N σ σ) (s : Int) (gs : sw_g s) : sw_St M_X7_check M_X8_check [.inl s] N σ := by
  obtain ⟨⟨c, g0, w0, z0⟩, r0, l0, b0, s0⟩ := id J
  obtain ⟨hσ, hD, hV, hL, hpl, hspd, hbr, her, hmg, h61, h514, h513, h59, hro⟩ := id c
  obtain ⟨e0, e1, e10, e11, e12, e16, e17, e18, e19, e20, e32, e33, e39, er⟩ := id w0
  obtain ⟨e3, hz, hzz, hlm⟩ := id z0
  obtain ⟨hA, e2, hf, ⟨e7, hst, hsp⟩, e13⟩ := id r0
  obtain ⟨⟨el0, hl0⟩, ⟨el1, hl1⟩, ⟨ewt, hwt⟩, ⟨ekp, hkp⟩⟩ := id l0
  obtain ⟨efi, hsh⟩ := id s0
  obtain ⟨t0, t1, t2, t3⟩ := id hsh
  have hz4 : ∀ j : Nat, j < 4 → 0 ≤ σ 43 j ∧ σ 43 j ≤ 60 := fun j hj => by
    rcases (by omega : j = 0 ∨ j = 1 ∨ j = 2 ∨ j = 3) with rfl | rfl | rfl | rfl
    · rw [t0.2.2.2.1]; exact t0.2.2.2.2.1
    · rw [t1.2.2.2.1]; exact t1.2.2.2.2.1
    · rw [t2.2.2.2.1]; exact t2.2.2.2.2.1
    · rw [t3.2.2.2.1]; exact t3.2.2.2.2.1
  by_cases hs : 0 ≤ s ∧ s ≤ 3
  · rcases (by omega : s = 0 ∨ s = 1 ∨ s = 2 ∨ s = 3) with rfl | rfl | rfl | rfl
    · exact st_check0 N hN σ J  
    · exact st_check1 N hN σ J  
    · exact st_check2 N hN σ J  
    · exact st_check3 N hN σ J  
  · refine ⟨_, cc_checkB σ s gs hs  , fun r1 σ1 q1 => ?_⟩
    obtain ⟨h2, h3⟩ := q1
    subst h3
    refine ⟨_, mm_check σ hσ (by omega) (by omega) (by omega) (by omega) (by omega) s gs hz4, fun r2 σ2 q2 => ?_⟩
    rcases q2 with ⟨m1, m2, m3⟩ | ⟨m1, m2⟩ | ⟨m1, m2⟩ | ⟨m1, m2⟩
    · subst m3; exact ⟨_, h2, m2, sw_J_mono (N := N) (by omega) J⟩
    · exfalso; omega
    · exfalso; omega
    · exfalso; omega
theorem st_copy (N : Int) (hN : 0 ≤ N ∧ N ≤ 900000) (σ : sw_S) (J : sw_J N σ σ) (s i t j m : Int) (gs : sw_g s) (gi : sw_g i) (gt : sw_g t) (gj : sw_g j) (gm : sw_g m) : sw_St M_X7_copy M_X8_copy [.inl s, .inl i, .inl t, .inl j, .inl m] N σ := by
  obtain ⟨⟨c, g0, w0, z0⟩, r0, l0, b0, s0⟩ := id J
  obtain ⟨hσ, hD, hV, hL, hpl, hspd, hbr, her, hmg, h61, h514, h513, h59, hro⟩ := id c
  obtain ⟨e0, e1, e10, e11, e12, e16, e17, e18, e19, e20, e32, e33, e39, er⟩ := id w0
  obtain ⟨e3, hz, hzz, hlm⟩ := id z0
  obtain ⟨hA, e2, hf, ⟨e7, hst, hsp⟩, e13⟩ := id r0
  obtain ⟨⟨el0, hl0⟩, ⟨el1, hl1⟩, ⟨ewt, hwt⟩, ⟨ekp, hkp⟩⟩ := id l0
  obtain ⟨efi, hsh⟩ := id s0
  obtain ⟨t0, t1, t2, t3⟩ := id hsh
  have hz4 : ∀ j : Nat, j < 4 → 0 ≤ σ 43 j ∧ σ 43 j ≤ 60 := fun j hj => by
    rcases (by omega : j = 0 ∨ j = 1 ∨ j = 2 ∨ j = 3) with rfl | rfl | rfl | rfl
    · rw [t0.2.2.2.1]; exact t0.2.2.2.2.1
    · rw [t1.2.2.2.1]; exact t1.2.2.2.2.1
    · rw [t2.2.2.2.1]; exact t2.2.2.2.2.1
    · rw [t3.2.2.2.1]; exact t3.2.2.2.2.1
  by_cases hs : 0 ≤ s ∧ s ≤ 3
  · by_cases ht : 0 ≤ t ∧ t ≤ 3
    · rcases (by omega : s = 0 ∨ s = 1 ∨ s = 2 ∨ s = 3) with rfl | rfl | rfl | rfl <;> rcases (by omega : t = 0 ∨ t = 1 ∨ t = 2 ∨ t = 3) with rfl | rfl | rfl | rfl
      · exact st_copy00 N hN σ J i j m gi gj gm
      · exact st_copy01 N hN σ J i j m gi gj gm
      · exact st_copy02 N hN σ J i j m gi gj gm
      · exact st_copy03 N hN σ J i j m gi gj gm
      · exact st_copy10 N hN σ J i j m gi gj gm
      · exact st_copy11 N hN σ J i j m gi gj gm
      · exact st_copy12 N hN σ J i j m gi gj gm
      · exact st_copy13 N hN σ J i j m gi gj gm
      · exact st_copy20 N hN σ J i j m gi gj gm
      · exact st_copy21 N hN σ J i j m gi gj gm
      · exact st_copy22 N hN σ J i j m gi gj gm
      · exact st_copy23 N hN σ J i j m gi gj gm
      · exact st_copy30 N hN σ J i j m gi gj gm
      · exact st_copy31 N hN σ J i j m gi gj gm
      · exact st_copy32 N hN σ J i j m gi gj gm
      · exact st_copy33 N hN σ J i j m gi gj gm
    · refine ⟨_, cc_copyBT σ s i t j m gs gi gt gj gm ht, fun r1 σ1 q1 => ?_⟩
      obtain ⟨h2, h3⟩ := q1
      subst h3
      refine ⟨_, mm_copy σ hσ s i t j m gs gi gt gj gm hz4, fun r2 σ2 q2 => ?_⟩
      rcases q2 with ⟨m1, m2, m3⟩ | ⟨m1, m2⟩ | ⟨m1, m2⟩ | ⟨m1, m2⟩ | ⟨m1, m2⟩
      · subst m3; exact ⟨_, h2, m2, sw_J_mono (N := N) (by omega) J⟩
      · exfalso; omega
      · exfalso; omega
      · exfalso; omega
      · exfalso; omega
  · refine ⟨_, cc_copyBS σ s i t j m gs gi gt gj gm hs, fun r1 σ1 q1 => ?_⟩
    obtain ⟨h2, h3⟩ := q1
    subst h3
    refine ⟨_, mm_copy σ hσ s i t j m gs gi gt gj gm hz4, fun r2 σ2 q2 => ?_⟩
    rcases q2 with ⟨m1, m2, m3⟩ | ⟨m1, m2⟩ | ⟨m1, m2⟩ | ⟨m1, m2⟩ | ⟨m1, m2⟩
    · subst m3; exact ⟨_, h2, m2, sw_J_mono (N := N) (by omega) J⟩
    · exfalso; omega
    · exfalso; omega
    · exfalso; omega
    · exfalso; omega
