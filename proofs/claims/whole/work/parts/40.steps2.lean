theorem sw_fl_gs {σ : sw_S} (h : sw_gs σ) (a n : Nat) {v : Int} (hv : sw_g v) : sw_gs (sw_fl σ a n v) := by
  intro i j
  unfold sw_fl
  split
  · exact hv
  · exact h i j
theorem sw_aw_0 {fr to sp : Nat → Int} {top D x : Int} : ∀ n : Nat, (sw_aw fr to sp top D x n).2 = 0 → (sw_aw fr to sp top D x n).1 = top
  | 0, _ => rfl
  | n + 1, h => by
    rw [sw_aw] at h ⊢
    split at h
    · split at h
      · cases h
      · split at h <;> cases h
    · next z => rw [if_neg z]; exact sw_aw_0 n h
theorem sw_aw_cong {fr to sp fr' to' sp' : Nat → Int} {top D x : Int} : ∀ n : Nat, (∀ z, z < n → fr z = fr' z ∧ to z = to' z ∧ sp z = sp' z) → sw_aw fr to sp top D x n = sw_aw fr' to' sp' top D x n
  | 0, _ => rfl
  | n + 1, h => by
    have e := h n (by omega)
    rw [sw_aw, sw_aw, sw_aw_cong n (fun z hz => h z (by omega)), e.1, e.2.1, e.2.2]
/-- a row in place of another -/
def sw_rp (σ : sw_S) (c : Nat) (g : Nat → Int) : sw_S := fun i j => if i = c then g j else σ i j
theorem sw_rp_of {σ τ : sw_S} {c : Nat} (h : ∀ i j, i ≠ c → τ i j = σ i j) : ∃ g, τ = sw_rp σ c g := by
  refine ⟨τ c, funext fun i => funext fun j => ?_⟩
  unfold sw_rp
  split
  · next z => rw [z]
  · next z => exact h i j z
theorem sw_sm_shift (f : Nat → Int) (a : Nat) : ∀ n : Nat, sw_sm f a (n + 1) = (if a < 60 then f a else 0) + sw_sm f (a + 1) n
  | 0 => by
    rw [sw_sm, sw_sm, sw_sm, Nat.add_zero]
    omega
  | n + 1 => by
    rw [sw_sm, sw_sm_shift f a n, sw_sm, show a + 1 + n = a + (n + 1) by omega]
    omega
theorem sw_sm_up {f : Nat → Int} (h : ∀ j, j < 60 → 0 ≤ f j ∧ f j ≤ 99) (a n : Nat) : ∀ k : Nat, sw_sm f a n ≤ sw_sm f a (n + k)
  | 0 => Int.le_refl _
  | k + 1 => by
    have ih := sw_sm_up h a n k
    rw [show n + (k + 1) = n + k + 1 by omega, sw_sm]
    split
    · next z => have := h _ z; omega
    · omega
theorem sw_sm_tail {f : Nat → Int} (h : ∀ j, j < 60 → 0 ≤ f j ∧ f j ≤ 99) (a : Nat) : ∀ k : Nat, sw_sm f (a + k) 60 ≤ sw_sm f a 60
  | 0 => Int.le_refl _
  | k + 1 => by
    have ih := sw_sm_tail h a k
    have e1 := sw_sm_shift f (a + k) 60
    have e2 := sw_sm_out f (a := a + k) (t := 60) (by omega) 1
    rw [show a + (k + 1) = a + k + 1 by omega]
    split at e1
    · next z => have := h _ z; omega
    · omega
theorem sw_sm_end {f : Nat → Int} (h : ∀ j, j < 60 → 0 ≤ f j ∧ f j ≤ 99) {a b n m : Nat} (hab : a ≤ b) (ha : 60 ≤ a + n) (hm : m ≤ 60) (hn : n ≤ 60) : sw_sm f b m ≤ sw_sm f a n := by
  have e1 := sw_sm_up h b m (60 - m)
  have e2 := sw_sm_tail h a (b - a)
  have e3 := sw_sm_out f (a := a) (t := n) ha (60 - n)
  rw [show m + (60 - m) = 60 by omega] at e1
  rw [show a + (b - a) = b by omega] at e2
  rw [show n + (60 - n) = 60 by omega] at e3
  omega
theorem st_shaft (N : Int) (hN : 0 ≤ N ∧ N ≤ 900000) (σ : sw_S) (J : sw_J N σ σ) (d v a : Int) (gd : sw_g d) (gv : sw_g v) (ga : sw_g a) : sw_St M_X7_shaft M_X8_shaft [.inl d, .inl v, .inl a] N σ := by
  obtain ⟨⟨c, g0, w0, z0⟩, r0, l0, b0, s0⟩ := id J
  obtain ⟨hσ, hD, hV, hL, hpl, hspd, hbr, her, hmg, h61, h514, h513, h59, hro⟩ := id c
  obtain ⟨e0, e1, e10, e11, e12, e16, e17, e18, e19, e20, e32, e33, e39, er⟩ := id w0
  obtain ⟨e3, hz, hzz, hlm⟩ := id z0
  obtain ⟨hA, e2, hf, ⟨e7, hst, hsp⟩, e13⟩ := id r0
  obtain ⟨⟨el0, hl0⟩, ⟨el1, hl1⟩, ⟨ewt, hwt⟩, ⟨ekp, hkp⟩⟩ := id l0
  obtain ⟨efi, hsh⟩ := id s0
  refine ⟨_, cc_shaft σ hσ d v a gd gv ga, fun r1 σ1 q1 => ?_⟩
  rcases q1 with ⟨h1, h2, h3⟩ | ⟨h1, h2, h3⟩ | ⟨h1, h2, h3⟩
  · have gs1 : sw_gs σ1 := by rw [← h3]; exact hσ
    have k26 : σ1 26 = σ 26 := by subst h3; rfl
    refine ⟨_, mm_shaft σ1 gs1 d v a gd gv ga, fun r2 σ2 q2 => ?_⟩
    rcases q2 with ⟨m1, m2, m3⟩ | ⟨m1, m2, m3⟩ | ⟨m1, m2, m3⟩
    · (try rw [k26] at m1)
      (try rw [k26] at m2)
      refine ⟨_, h2, m2, ?_⟩
      rw [← m3, ← h3]
      exact sw_J_mono (N := N) (by omega) J
    · (try rw [k26] at m1)
      exfalso
      omega
    · (try rw [k26] at m1)
      exfalso
      omega
  · have gs1 : sw_gs σ1 := by rw [← h3]; exact hσ
    have k26 : σ1 26 = σ 26 := by subst h3; rfl
    refine ⟨_, mm_shaft σ1 gs1 d v a gd gv ga, fun r2 σ2 q2 => ?_⟩
    rcases q2 with ⟨m1, m2, m3⟩ | ⟨m1, m2, m3⟩ | ⟨m1, m2, m3⟩
    · (try rw [k26] at m1)
      exfalso
      omega
    · (try rw [k26] at m1)
      (try rw [k26] at m2)
      refine ⟨_, h2, m2, ?_⟩
      rw [← m3, ← h3]
      exact sw_J_mono (N := N) (by omega) J
    · (try rw [k26] at m1)
      exfalso
      omega
  · have gs1 : sw_gs σ1 := by rw [← h3]; exact (sw_gs_u (sw_gs_u (sw_gs_u (sw_fl_gs (sw_gs_u (sw_gs_u (sw_gs_u (sw_gs_u hσ 1 0 gd) 1 1 gv) 1 2 ga) 1 3 sw_g0) 2 401 gv) 3 2 (by decide)) 0 8 sw_g0) 5 7 sw_g0)
    have k26 : σ1 26 = σ 26 := by subst h3; rfl
    refine ⟨_, mm_shaft σ1 gs1 d v a gd gv ga, fun r2 σ2 q2 => ?_⟩
    rcases q2 with ⟨m1, m2, m3⟩ | ⟨m1, m2, m3⟩ | ⟨m1, m2, m3⟩
    · (try rw [k26] at m1)
      exfalso
      omega
    · (try rw [k26] at m1)
      exfalso
      omega
    · (try rw [k26] at m1)
      (try rw [k26] at m2)
      refine ⟨_, h2, m2, ?_⟩
      subst h3
      subst m3
      exact sw_J_mono (N := N) (by omega) ⟨⟨⟨(sw_gs_u (sw_gs_u (sw_gs_u (sw_gs_u (sw_gs_u (sw_gs_u (sw_gs_u (sw_gs_u (sw_gs_u (sw_fl_gs (sw_gs_u (sw_gs_u (sw_gs_u (sw_gs_u hσ 1 0 gd) 1 1 gv) 1 2 ga) 1 3 sw_g0) 2 401 gv) 3 2 (by decide)) 0 8 sw_g0) 5 7 sw_g0) 26 0 gd) 26 1 gv) 26 2 ga) 26 3 sw_g0) 26 7 sw_g0) 26 10 sw_g0), h1.1.1, h1.1.2.1, (fun x x1 x2 => by show 1 ≤ (if 2 = 2 ∧ x.toNat < 401 then v else σ 2 x.toNat) ∧ (if 2 = 2 ∧ x.toNat < 401 then v else σ 2 x.toNat) ≤ v; have x2 : x ≤ d := x2; rw [if_pos ⟨rfl, by omega⟩]; omega), (show (0 : Int) ≤ 0 ∧ 0 ≤ d by omega), hspd, hbr, her, hmg, h61, h514, h513, h59, (fun z => by have z : σ 5 9 = 1 := z; omega)⟩, (sw_gs_u (sw_gs_u (sw_gs_u (sw_gs_u (sw_gs_u (sw_gs_u (sw_gs_u (sw_gs_u (sw_gs_u (sw_fl_gs (sw_gs_u (sw_gs_u (sw_gs_u (sw_gs_u hσ 1 0 gd) 1 1 gv) 1 2 ga) 1 3 sw_g0) 2 401 gv) 3 2 (by decide)) 0 8 sw_g0) 5 7 sw_g0) 26 0 gd) 26 1 gv) 26 2 ga) 26 3 sw_g0) 26 7 sw_g0) 26 10 sw_g0), ⟨rfl, rfl, rfl, e11, e12, e16, e17, e18, e19, e20, e32, e33, e39, (fun z => by have z : σ 5 9 = 1 := z; omega)⟩, ⟨rfl, (show (0 : Int) ≤ 0 ∧ (0 : Int) ≤ 6 by omega), (fun z zz => by have zz : (z : Int) < 0 := zz; omega), (fun j hj => by show (if (v : Int) < v then v else v) = (if 2 = 2 ∧ j < 401 then v else σ 2 j); have hj : (j : Int) ≤ d := hj; rw [if_pos (show 2 = 2 ∧ j < 401 from ⟨rfl, by omega⟩)]; split <;> rfl)⟩⟩, ⟨h1.1.2.2, rfl, (Or.inl rfl), ⟨rfl, (show (0 : Int) ≤ 0 ∧ (0 : Int) ≤ 6 by omega), (fun j hj => by have hj : (j : Int) < 0 := hj; omega)⟩, e13⟩, ⟨⟨el0, hl0⟩, ⟨el1, hl1⟩, ⟨ewt, hwt⟩, ⟨ekp, hkp⟩⟩, b0, ⟨efi, hsh⟩⟩
theorem st_broken (N : Int) (hN : 0 ≤ N ∧ N ≤ 900000) (σ : sw_S) (J : sw_J N σ σ) (l k : Int) (gl : sw_g l) (gk : sw_g k) : sw_St M_X7_broken M_X8_broken [.inl l, .inl k] N σ := by
  obtain ⟨⟨c, g0, w0, z0⟩, r0, l0, b0, s0⟩ := id J
  obtain ⟨hσ, hD, hV, hL, hpl, hspd, hbr, her, hmg, h61, h514, h513, h59, hro⟩ := id c
  obtain ⟨e0, e1, e10, e11, e12, e16, e17, e18, e19, e20, e32, e33, e39, er⟩ := id w0
  obtain ⟨e3, hz, hzz, hlm⟩ := id z0
  obtain ⟨hA, e2, hf, ⟨e7, hst, hsp⟩, e13⟩ := id r0
  obtain ⟨⟨el0, hl0⟩, ⟨el1, hl1⟩, ⟨ewt, hwt⟩, ⟨ekp, hkp⟩⟩ := id l0
  obtain ⟨efi, hsh⟩ := id s0
  have hbb := fun j hj => (b0 j hj).2
  have hb4 : ∀ j, j < 60 → 0 ≤ σ 40 j ∧ σ 40 j ≤ 99 := fun j hj => by rw [(b0 j hj).1]; exact hbb j hj
  refine ⟨_, cc_broken σ hσ hbb l k gl gk, fun r1 σ1 q1 => ?_⟩
  rcases q1 with ⟨h1, h2, h3⟩ | ⟨h1, h2, h3⟩
  · have gs1 : sw_gs σ1 := by rw [← h3]; exact hσ
    have k40 : σ1 40 = σ 40 := by subst h3; rfl
    refine ⟨_, mm_broken σ1 gs1 (by rw [k40]; exact hb4) l k gl gk, fun r2 σ2 q2 => ?_⟩
    rcases q2 with ⟨m1, m2, m3⟩ | ⟨m1, m2, m3⟩
    · (try rw [k40] at m1)
      (try rw [k40] at m2)
      refine ⟨_, h2, m2, ?_⟩
      rw [← m3, ← h3]
      exact sw_J_mono (N := N) (by omega) J
    · (try rw [k40] at m1)
      exfalso
      omega
  · have gs1 : sw_gs σ1 := by rw [← h3]; exact sw_gs_u hσ 13 l.toNat (by have := hbb l.toNat (by omega); omega)
    have k40 : σ1 40 = σ 40 := by subst h3; rfl
    refine ⟨_, mm_broken σ1 gs1 (by rw [k40]; exact hb4) l k gl gk, fun r2 σ2 q2 => ?_⟩
    rcases q2 with ⟨m1, m2, m3⟩ | ⟨m1, m2, m3⟩
    · (try rw [k40] at m1)
      exfalso
      omega
    · (try rw [k40] at m1)
      (try rw [k40] at m2)
      have e40 := (b0 l.toNat (by omega)).1
      have hl := hbb l.toNat (by omega)
      rw [k40, e40] at m3
      refine ⟨_, h2, m2.trans (congrArg (fun z : Int => some (Sum.inl z)) (by rw [e40])), ?_⟩
      subst h3
      subst m3
      exact sw_J_mono (N := N) (by omega) ⟨⟨⟨(sw_gs_u (sw_gs_u hσ 13 l.toNat (by omega)) 40 l.toNat (show sw_g (min (σ 13 l.toNat + k) 99) by omega)), hD, hV, hL, hpl, hspd, hbr, her, hmg, h61, h514, h513, h59, hro⟩, (sw_gs_u (sw_gs_u hσ 13 l.toNat (by omega)) 40 l.toNat (show sw_g (min (σ 13 l.toNat + k) 99) by omega)), ⟨e0, e1, e10, e11, e12, e16, e17, e18, e19, e20, e32, e33, e39, er⟩, ⟨e3, hz, hzz, hlm⟩⟩, ⟨hA, e2, hf, ⟨e7, hst, hsp⟩, e13⟩, ⟨⟨el0, hl0⟩, ⟨el1, hl1⟩, ⟨ewt, hwt⟩, ⟨ekp, hkp⟩⟩, (fun j hj => by show (if 40 = 40 ∧ j = l.toNat then (min (σ 13 l.toNat + k) 99) else σ 40 j) = (if 13 = 13 ∧ j = l.toNat then (min (σ 13 l.toNat + k) 99) else σ 13 j) ∧ 0 ≤ (if 13 = 13 ∧ j = l.toNat then (min (σ 13 l.toNat + k) 99) else σ 13 j) ∧ (if 13 = 13 ∧ j = l.toNat then (min (σ 13 l.toNat + k) 99) else σ 13 j) ≤ 99; by_cases zz : j = l.toNat; (rw [if_pos ⟨rfl, zz⟩, if_pos ⟨rfl, zz⟩]; exact ⟨rfl, by omega, by omega⟩); (rw [if_neg (fun y => zz y.2), if_neg (fun y => zz y.2)]; exact b0 j hj)), ⟨efi, hsh⟩⟩
theorem st_cut (N : Int) (hN : 0 ≤ N ∧ N ≤ 900000) (σ : sw_S) (J : sw_J N σ σ) (k : Int) (gk : sw_g k) : sw_St M_X7_cut M_X8_cut [.inl k] N σ := by
  obtain ⟨⟨c, g0, w0, z0⟩, r0, l0, b0, s0⟩ := id J
  obtain ⟨hσ, hD, hV, hL, hpl, hspd, hbr, her, hmg, h61, h514, h513, h59, hro⟩ := id c
  obtain ⟨e0, e1, e10, e11, e12, e16, e17, e18, e19, e20, e32, e33, e39, er⟩ := id w0
  obtain ⟨e3, hz, hzz, hlm⟩ := id z0
  obtain ⟨hA, e2, hf, ⟨e7, hst, hsp⟩, e13⟩ := id r0
  obtain ⟨⟨el0, hl0⟩, ⟨el1, hl1⟩, ⟨ewt, hwt⟩, ⟨ekp, hkp⟩⟩ := id l0
  obtain ⟨efi, hsh⟩ := id s0
  have hbb := fun j hj => (b0 j hj).2
  have hb4 : ∀ j, j < 60 → 0 ≤ σ 40 j ∧ σ 40 j ≤ 99 := fun j hj => by rw [(b0 j hj).1]; exact hbb j hj
  have gcut : ∀ (r j : Nat), sw_g (if j + k.toNat < 60 then σ r (j + k.toNat) else 0) := fun r j => sw_ite_g (hσ r _) sw_g0
  refine ⟨_, cc_cut σ hσ hbb k gk, fun r1 σ1 q1 => ?_⟩
  rcases q1 with ⟨h1, h2, h3⟩ | ⟨h1, h2, h3⟩
  · have gs1 : sw_gs σ1 := by rw [← h3]; exact hσ
    have k40 : σ1 40 = σ 40 := by subst h3; rfl
    refine ⟨_, mm_cut σ1 gs1 (by rw [k40]; exact hb4) k gk, fun r2 σ2 q2 => ?_⟩
    rcases q2 with ⟨m1, m2, m3⟩ | ⟨m1, m2, m3⟩
    · refine ⟨_, h2, m2, ?_⟩
      rw [← m3, ← h3]
      exact sw_J_mono (N := N) (by omega) J
    · exfalso
      omega
  · have gs1 : sw_gs σ1 := by rw [← h3]; exact sw_pf_gs hσ 13 60 (fun j _ => gcut 13 j)
    have k40 : σ1 40 = σ 40 := by subst h3; rfl
    refine ⟨_, mm_cut σ1 gs1 (by rw [k40]; exact hb4) k gk, fun r2 σ2 q2 => ?_⟩
    rcases q2 with ⟨m1, m2, m3⟩ | ⟨m1, m2, m3⟩
    · exfalso
      omega
    · refine ⟨_, h2, m2.trans (congrArg (fun z : Int => some (Sum.inl z)) (by rw [k40]; exact sw_sm_cong (fun j hj => (b0 j hj).1) _ _)), ?_⟩
      rw [k40] at m3
      subst h3
      subst m3
      exact sw_J_mono (N := N) (by omega) ⟨⟨⟨(sw_pf_gs (sw_pf_gs hσ 13 60 (fun j _ => gcut 13 j)) 40 60 (fun j _ => gcut 40 j)), hD, hV, hL, hpl, hspd, hbr, her, hmg, h61, h514, h513, h59, hro⟩, (sw_pf_gs (sw_pf_gs hσ 13 60 (fun j _ => gcut 13 j)) 40 60 (fun j _ => gcut 40 j)), ⟨e0, e1, e10, e11, e12, e16, e17, e18, e19, e20, e32, e33, e39, er⟩, ⟨e3, hz, hzz, hlm⟩⟩, ⟨hA, e2, hf, ⟨e7, hst, hsp⟩, e13⟩, ⟨⟨el0, hl0⟩, ⟨el1, hl1⟩, ⟨ewt, hwt⟩, ⟨ekp, hkp⟩⟩, (fun j hj => by show (if 40 = 40 ∧ j < 60 then (if j + k.toNat < 60 then σ 40 (j + k.toNat) else 0) else σ 40 j) = (if 13 = 13 ∧ j < 60 then (if j + k.toNat < 60 then σ 13 (j + k.toNat) else 0) else σ 13 j) ∧ 0 ≤ (if 13 = 13 ∧ j < 60 then (if j + k.toNat < 60 then σ 13 (j + k.toNat) else 0) else σ 13 j) ∧ (if 13 = 13 ∧ j < 60 then (if j + k.toNat < 60 then σ 13 (j + k.toNat) else 0) else σ 13 j) ≤ 99; rw [if_pos (show 40 = 40 ∧ j < 60 from ⟨rfl, hj⟩), if_pos (show 13 = 13 ∧ j < 60 from ⟨rfl, hj⟩)]; by_cases zz : j + k.toNat < 60; (rw [if_pos zz, if_pos zz]; exact b0 _ zz); (rw [if_neg zz, if_neg zz]; exact ⟨rfl, by omega, by omega⟩)), ⟨efi, hsh⟩⟩
theorem st_worstAt (N : Int) (hN : 0 ≤ N ∧ N ≤ 900000) (σ : sw_S) (J : sw_J N σ σ) (w : Int) (gw : sw_g w) : sw_St M_X7_worstAt M_X8_worstAt [.inl w] N σ := by
  obtain ⟨⟨c, g0, w0, z0⟩, r0, l0, b0, s0⟩ := id J
  obtain ⟨hσ, hD, hV, hL, hpl, hspd, hbr, her, hmg, h61, h514, h513, h59, hro⟩ := id c
  obtain ⟨e0, e1, e10, e11, e12, e16, e17, e18, e19, e20, e32, e33, e39, er⟩ := id w0
  obtain ⟨e3, hz, hzz, hlm⟩ := id z0
  obtain ⟨hA, e2, hf, ⟨e7, hst, hsp⟩, e13⟩ := id r0
  obtain ⟨⟨el0, hl0⟩, ⟨el1, hl1⟩, ⟨ewt, hwt⟩, ⟨ekp, hkp⟩⟩ := id l0
  obtain ⟨efi, hsh⟩ := id s0
  have hbb := fun j hj => (b0 j hj).2
  have hb4 : ∀ j, j < 60 → 0 ≤ σ 40 j ∧ σ 40 j ≤ 99 := fun j hj => by rw [(b0 j hj).1]; exact hbb j hj
  have ef : (fun i : Int => sw_sm (σ 40) (i + 0).toNat w.toNat) = (fun i : Int => sw_sm (σ 13) i.toNat w.toNat) := funext fun i => by
    rw [Int.add_zero]
    exact sw_sm_cong (fun j hj => (b0 j hj).1) _ _
  refine ⟨_, cc_worstAt σ hσ hbb w gw, fun r1 σ1 q1 => ?_⟩
  obtain ⟨rfl, q1⟩ := q1
  refine ⟨_, mm_worstAt σ hσ hb4 w gw, fun r2 σ2 q2 => ?_⟩
  obtain ⟨rfl, q2⟩ := q2
  rw [ef] at q2
  rcases q1 with ⟨h1, h2⟩ | ⟨h1, x, h2, h3⟩
  · rcases q2 with ⟨m1, m2⟩ | ⟨m1, y, m2, m3⟩
    · exact ⟨_, h2, m2, sw_J_mono (N := N) (by omega) J⟩
    · exact absurd m1 h1
  · rcases q2 with ⟨m1, m2⟩ | ⟨m1, y, m2, m3⟩
    · exact absurd h1 m1
    · have e := sw_wf_one h3 m3
      subst e
      exact ⟨_, h2, m2, sw_J_mono (N := N) (by omega) J⟩
theorem st_worst (N : Int) (hN : 0 ≤ N ∧ N ≤ 900000) (σ : sw_S) (J : sw_J N σ σ) (w : Int) (gw : sw_g w) : sw_St M_X7_worst M_X8_worst [.inl w] N σ := by
  obtain ⟨⟨c, g0, w0, z0⟩, r0, l0, b0, s0⟩ := id J
  obtain ⟨hσ, hD, hV, hL, hpl, hspd, hbr, her, hmg, h61, h514, h513, h59, hro⟩ := id c
  obtain ⟨e0, e1, e10, e11, e12, e16, e17, e18, e19, e20, e32, e33, e39, er⟩ := id w0
  obtain ⟨e3, hz, hzz, hlm⟩ := id z0
  obtain ⟨hA, e2, hf, ⟨e7, hst, hsp⟩, e13⟩ := id r0
  obtain ⟨⟨el0, hl0⟩, ⟨el1, hl1⟩, ⟨ewt, hwt⟩, ⟨ekp, hkp⟩⟩ := id l0
  obtain ⟨efi, hsh⟩ := id s0
  have hbb := fun j hj => (b0 j hj).2
  have hb4 : ∀ j, j < 60 → 0 ≤ σ 40 j ∧ σ 40 j ≤ 99 := fun j hj => by rw [(b0 j hj).1]; exact hbb j hj
  have ef : (fun i : Int => sw_sm (σ 40) (i + 0).toNat w.toNat) = (fun i : Int => sw_sm (σ 13) i.toNat w.toNat) := funext fun i => by
    rw [Int.add_zero]
    exact sw_sm_cong (fun j hj => (b0 j hj).1) _ _
  refine ⟨_, cc_worst σ hσ hbb w gw, fun r1 σ1 q1 => ?_⟩
  obtain ⟨rfl, q1⟩ := q1
  refine ⟨_, mm_worst σ hσ hb4 w gw, fun r2 σ2 q2 => ?_⟩
  obtain ⟨rfl, q2⟩ := q2
  rw [ef] at q2
  rcases q1 with ⟨h1, h2⟩ | ⟨h1, x, h2, h3⟩
  · rcases q2 with ⟨m1, m2⟩ | ⟨m1, y, m2, m3⟩
    · exact ⟨_, h2, m2, sw_J_mono (N := N) (by omega) J⟩
    · exact absurd m1 h1
  · rcases q2 with ⟨m1, m2⟩ | ⟨m1, y, m2, m3⟩
    · exact absurd h1 m1
    · have e := sw_wf_one h3 m3
      subst e
      exact ⟨_, h2, m2.trans (congrArg (fun z : Int => some (Sum.inl z)) (sw_sm_cong (fun j hj => (b0 j hj).1) _ _)), sw_J_mono (N := N) (by omega) J⟩
theorem st_mend (N : Int) (hN : 0 ≤ N ∧ N ≤ 900000) (σ : sw_S) (J : sw_J N σ σ) (w m : Int) (gw : sw_g w) (gm : sw_g m) : sw_St M_X7_mend M_X8_mend [.inl w, .inl m] N σ := by
  obtain ⟨⟨c, g0, w0, z0⟩, r0, l0, b0, s0⟩ := id J
  obtain ⟨hσ, hD, hV, hL, hpl, hspd, hbr, her, hmg, h61, h514, h513, h59, hro⟩ := id c
  obtain ⟨e0, e1, e10, e11, e12, e16, e17, e18, e19, e20, e32, e33, e39, er⟩ := id w0
  obtain ⟨e3, hz, hzz, hlm⟩ := id z0
  obtain ⟨hA, e2, hf, ⟨e7, hst, hsp⟩, e13⟩ := id r0
  obtain ⟨⟨el0, hl0⟩, ⟨el1, hl1⟩, ⟨ewt, hwt⟩, ⟨ekp, hkp⟩⟩ := id l0
  obtain ⟨efi, hsh⟩ := id s0
  have hbb := fun j hj => (b0 j hj).2
  have hb4 : ∀ j, j < 60 → 0 ≤ σ 40 j ∧ σ 40 j ≤ 99 := fun j hj => by rw [(b0 j hj).1]; exact hbb j hj
  refine ⟨_, cc_mend σ hσ hbb w m gw gm, fun r1 σ1 q1 => ?_⟩
  obtain ⟨rfl, q1⟩ := q1
  refine ⟨_, mm_mend σ hσ hb4 w m gw gm, fun r2 σ2 q2 => ?_⟩
  obtain ⟨rfl, q2⟩ := q2
  have es : ∀ a n : Nat, sw_sm (σ 40) a n = sw_sm (σ 13) a n := fun a n => sw_sm_cong (fun j hj => (b0 j hj).1) a n
  rcases q1 with ⟨h1, h2⟩ | ⟨h1, x, h2, h3⟩
  · rcases q2 with ⟨m1, m2⟩ | ⟨m1, y, m2, m3⟩
    · exact ⟨_, h2, m2, sw_J_mono (N := N) (by omega) J⟩
    · exact absurd m1 h1
  · rcases q2 with ⟨m1, m2⟩ | ⟨m1, y, m2, m3⟩
    · exact absurd h1 m1
    · obtain ⟨y0, y1, y2⟩ := m3
      have e : x = y := by
        rcases Int.lt_trichotomy x y with z | z | z
        · exfalso
          obtain ⟨i, i1, i2, i3⟩ := y2 x (by omega) z
          rw [es] at i3
          rcases Int.lt_or_le (i + x) 60 with z2 | z2
          · have : sw_sm (σ 13) (i + x).toNat w.toNat ≤ m := by
              rcases h3 with ⟨h4, h5⟩ | ⟨h4, h5, h6, h7⟩
              · exact h5 _ (by omega) (by omega)
              · exact h7 _ (by omega) (by omega)
            omega
          · have := sw_sm_far (σ 13) (i + x).toNat (by omega) w.toNat
            omega
        · exact z
        · exfalso
          rcases h3 with ⟨h4, h5⟩ | ⟨h4, h5, h6, h7⟩
          · omega
          · rcases Int.lt_or_le 60 (x - 1 - y + w) with z2 | z2
            · have k1 := y1 (60 - w) (by omega) (by omega)
              rw [es] at k1
              have k2 := sw_sm_end hbb (a := (60 - w + y).toNat) (b := (x - 1).toNat) (n := w.toNat) (m := w.toNat) (by omega) (by omega) (by omega) (by omega)
              omega
            · have k1 := y1 (x - 1 - y) (by omega) (by omega)
              rw [es, show x - 1 - y + y = x - 1 by omega] at k1
              omega
      subst e
      exact ⟨_, h2, m2, sw_J_mono (N := N) (by omega) J⟩
theorem sw_st_eq {N : Int} {σ : sw_S} (J : sw_J N σ σ) (x : Int) : sw_stm σ x = sw_stc σ x := by
  obtain ⟨⟨c, g0, w0, z0⟩, r0, l0, b0, s0⟩ := id J
  obtain ⟨hσ, hD, hV, hL, hpl, hspd, hbr, her, hmg, h61, h514, h513, h59, hro⟩ := id c
  obtain ⟨e0, e1, e10, e11, e12, e16, e17, e18, e19, e20, e32, e33, e39, er⟩ := id w0
  obtain ⟨e3, hz, hzz, hlm⟩ := id z0
  obtain ⟨hA, e2, hf, ⟨e7, hst, hsp⟩, e13⟩ := id r0
  obtain ⟨⟨el0, hl0⟩, ⟨el1, hl1⟩, ⟨ewt, hwt⟩, ⟨ekp, hkp⟩⟩ := id l0
  obtain ⟨efi, hsh⟩ := id s0
  have t7 : (if σ 26 12 = 1 then σ 26 22 - σ 26 23 else 0) = (if σ 5 9 = 1 then σ 5 5 - σ 5 6 else 0) := by
    rw [e12]
    by_cases z : σ 5 9 = 1
    · obtain ⟨r1, r2, r3⟩ := er z
      rw [if_pos z, if_pos z, r1, r2]
    · rw [if_neg z, if_neg z]
  have t5 : σ 26 10 + (σ 33 0 + σ 33 1 + σ 33 2 - min (σ 33 0) (min (σ 33 1) (σ 33 2)) - max (σ 33 0) (max (σ 33 1) (σ 33 2))) = sw_told (σ 5 7) (σ 9 0) (σ 9 1) (σ 9 2) := by
    rw [e33 0 (by decide), e33 1 (by decide), e33 2 (by decide), e10]
    unfold sw_told
    omega
  unfold sw_stm sw_stc
  rw [t7, t5, e10, e11, e12, e13, sw_cnt_cong 8 e32, e18, e19, e20, e3, e7, efi]
theorem st_state (N : Int) (hN : 0 ≤ N ∧ N ≤ 900000) (σ : sw_S) (J : sw_J N σ σ) (x : Int) (gx : sw_g x) : sw_St M_X7_state M_X8_state [.inl x] N σ := by
  obtain ⟨⟨c, g0, w0, z0⟩, r0, l0, b0, s0⟩ := id J
  obtain ⟨hσ, hD, hV, hL, hpl, hspd, hbr, her, hmg, h61, h514, h513, h59, hro⟩ := id c
  obtain ⟨e0, e1, e10, e11, e12, e16, e17, e18, e19, e20, e32, e33, e39, er⟩ := id w0
  obtain ⟨e3, hz, hzz, hlm⟩ := id z0
  obtain ⟨hA, e2, hf, ⟨e7, hst, hsp⟩, e13⟩ := id r0
  obtain ⟨⟨el0, hl0⟩, ⟨el1, hl1⟩, ⟨ewt, hwt⟩, ⟨ekp, hkp⟩⟩ := id l0
  obtain ⟨efi, hsh⟩ := id s0
  refine ⟨_, cc_state σ hσ x gx, fun r1 σ1 q1 => ?_⟩
  obtain ⟨rfl, q1⟩ := q1
  refine ⟨_, mm_state σ hσ x gx, fun r2 σ2 q2 => ?_⟩
  obtain ⟨rfl, q2⟩ := q2
  exact ⟨_, q1, q2.trans (congrArg (fun z : Int => some (Sum.inl z)) (sw_st_eq J x)), sw_J_mono (N := N) (by omega) J⟩
theorem st_most (N : Int) (hN : 0 ≤ N ∧ N ≤ 900000) (σ : sw_S) (J : sw_J N σ σ) (p s : Int) (gp : sw_g p) (gs : sw_g s) : sw_St M_X7_most M_X8_most [.inl p, .inl s] N σ := by
  obtain ⟨⟨c, g0, w0, z0⟩, r0, l0, b0, s0⟩ := id J
  obtain ⟨hσ, hD, hV, hL, hpl, hspd, hbr, her, hmg, h61, h514, h513, h59, hro⟩ := id c
  obtain ⟨e0, e1, e10, e11, e12, e16, e17, e18, e19, e20, e32, e33, e39, er⟩ := id w0
  obtain ⟨e3, hz, hzz, hlm⟩ := id z0
  obtain ⟨hA, e2, hf, ⟨e7, hst, hsp⟩, e13⟩ := id r0
  obtain ⟨⟨el0, hl0⟩, ⟨el1, hl1⟩, ⟨ewt, hwt⟩, ⟨ekp, hkp⟩⟩ := id l0
  obtain ⟨efi, hsh⟩ := id s0
  refine ⟨_, cc_most σ hσ hD hV hA hL p s gp gs, fun r1 σ1 q1 => ?_⟩
  obtain ⟨rfl, q1⟩ := q1
  refine ⟨_, mm_most σ hσ (by omega) (by omega) (by omega) (fun j hj => by rw [hlm j (by omega)]; exact (hL (j : Int) (by omega) (by omega)).1) p s gp gs, fun r2 σ2 q2 => ?_⟩
  rcases q1 with ⟨h1, h2⟩ | ⟨h1, g, h2, h3, h4, h5⟩
  · rcases q2 with ⟨m1, m2, m3⟩ | ⟨m1, m2, y, m3, m4, m5, m6⟩
    · rw [← m3]
      exact ⟨_, h2, m2, sw_J_mono (N := N) (by omega) J⟩
    · exfalso; omega
  · rcases q2 with ⟨m1, m2, m3⟩ | ⟨m1, m2, y, m3, m4, m5, m6⟩
    · exfalso; omega
    · have el : ∀ j : Nat, (j : Int) ≤ σ 1 0 → σ 2 j = σ2 35 j := fun j hj => by
        rw [← m2, ← hlm j hj]
        exact (sw_pf_in σ 35 (sw_lm σ) (by omega)).symm
      have hp : 0 ≤ p ∧ p ≤ σ 1 0 := h1.1
      rw [e0, e1] at m6
      have k1 := (m6 g h3).mp ((sw_tk_lc el hp).mp ((h5 g h3).mpr (Int.le_refl g)))
      have k2 := (h5 y m4).mp ((sw_tk_lc el hp).mpr ((m6 y m4).mpr (Int.le_refl y)))
      have e : g = y := by omega
      subst e
      refine ⟨_, h2, m3, sw_J_mono (N := N) (by omega) ?_⟩
      have g2 : sw_gs σ2 := by rw [← m2]; exact sw_pf_gs hσ 35 _ (fun j _ => sw_lm_g hσ j)
      have fr : ∀ i j, i ≠ 35 → σ2 i j = σ i j := fun i j hi => by rw [← m2]; exact sw_pf_row σ _ _ hi j
      refine sw_J_cong J g2 g2 ?_ (fun i j h _ _ _ => fr i j (by omega)) (fun i j _ h _ _ _ _ => fr i j h)
      subst m2
      exact hf
theorem sw_aw_min {fr to sp fr' to' sp' : Nat → Int} {V D x a b w L : Int} {n : Nat} (hL : (if (sw_aw fr to sp V D x n).1 < V then (sw_aw fr to sp V D x n).1 else V) = L) (hc : ∀ z, z < n → fr' z = fr z ∧ to' z = to z ∧ sp' z = sp z) (f7 : fr' n = a) (f8 : to' n = b) (f9 : sp' n = w) : (if (sw_aw fr' to' sp' V D x (n + 1)).1 < V then (sw_aw fr' to' sp' V D x (n + 1)).1 else V) = (if (a ≤ x ∧ x < b + 1) ∨ (a ≤ D - x ∧ D - x < b + 1) then min L w else L) := by
  rw [sw_aw, sw_aw_cong n hc, f7, f8, f9]
  have h0 := sw_aw_0 (fr := fr) (to := to) (sp := sp) (top := V) (D := D) (x := x) n
  generalize sw_aw fr to sp V D x n = A at hL h0 ⊢
  obtain ⟨A1, A2⟩ := A
  dsimp only at hL h0 ⊢
  by_cases hit : (a ≤ x ∧ x ≤ b) ∨ (a ≤ D - x ∧ D - x ≤ b)
  · rw [if_pos hit, if_pos (show (a ≤ x ∧ x < b + 1) ∨ (a ≤ D - x ∧ D - x < b + 1) by omega), ← hL]
    by_cases s0 : A2 = 0
    · rw [if_pos s0, h0 s0]
      dsimp only
      split <;> split <;> omega
    · rw [if_neg s0]
      by_cases s1 : w < A1
      · rw [if_pos s1]
        dsimp only
        split <;> split <;> omega
      · rw [if_neg s1]
        dsimp only
        split <;> omega
  · rw [if_neg hit, if_neg (show ¬ ((a ≤ x ∧ x < b + 1) ∨ (a ≤ D - x ∧ D - x < b + 1)) by omega)]
    exact hL
theorem st_zone (N : Int) (hN : 0 ≤ N ∧ N ≤ 900000) (σ : sw_S) (J : sw_J N σ σ) (a b w : Int) (ga : sw_g a) (gb : sw_g b) (gw : sw_g w) : sw_St M_X7_zone M_X8_zone [.inl a, .inl b, .inl w] N σ := by
  obtain ⟨⟨c, g0, w0, z0⟩, r0, l0, b0, s0⟩ := id J
  obtain ⟨hσ, hD, hV, hL, hpl, hspd, hbr, her, hmg, h61, h514, h513, h59, hro⟩ := id c
  obtain ⟨e0, e1, e10, e11, e12, e16, e17, e18, e19, e20, e32, e33, e39, er⟩ := id w0
  obtain ⟨e3, hz, hzz, hlm⟩ := id z0
  obtain ⟨hA, e2, hf, ⟨e7, hst, hsp⟩, e13⟩ := id r0
  obtain ⟨⟨el0, hl0⟩, ⟨el1, hl1⟩, ⟨ewt, hwt⟩, ⟨ekp, hkp⟩⟩ := id l0
  obtain ⟨efi, hsh⟩ := id s0
  refine ⟨_, cc_zone σ hσ hD hV hA hL hz a b w ga gb gw, fun r1 σ1 q1 => ?_⟩
  rcases q1 with ⟨h1, h2, h3⟩ | ⟨h1, h2, h3⟩ | ⟨h1, h2, h3⟩ | ⟨h1, τ, y1, y2, y3, h2, h3⟩
  · subst h3
    refine ⟨_, mm_zone σ hσ (by omega) a b w ga gb gw, fun r2 σ2 q2 => ?_⟩
    rcases q2 with ⟨m1, m2, m3⟩ | ⟨m1, m2, m3⟩ | ⟨m1, m2, m3⟩ | ⟨m1, m2, m3⟩
    · subst m3; exact ⟨_, h2, m2, sw_J_mono (N := N) (by omega) J⟩
    · exfalso; omega
    · exfalso; omega
    · exfalso; omega
  · subst h3
    refine ⟨_, mm_zone σ hσ (by omega) a b w ga gb gw, fun r2 σ2 q2 => ?_⟩
    rcases q2 with ⟨m1, m2, m3⟩ | ⟨m1, m2, m3⟩ | ⟨m1, m2, m3⟩ | ⟨m1, m2, m3⟩
    · exfalso; omega
    · subst m3; exact ⟨_, h2, m2, sw_J_mono (N := N) (by omega) J⟩
    · exfalso; omega
    · exfalso; omega
  · subst h3
    refine ⟨_, mm_zone σ hσ (by omega) a b w ga gb gw, fun r2 σ2 q2 => ?_⟩
    rcases q2 with ⟨m1, m2, m3⟩ | ⟨m1, m2, m3⟩ | ⟨m1, m2, m3⟩ | ⟨m1, m2, m3⟩
    · exfalso; omega
    · exfalso; omega
    · subst m3; exact ⟨_, h2, m2, sw_J_mono (N := N) (by omega) J⟩
    · exfalso; omega
  obtain ⟨g, rfl⟩ := sw_rp_of y1
  have e13' : (sw_rp σ 2 g) 1 3 = σ 1 3 := rfl
  rw [e13'] at h3
  have gs1 : sw_gs σ1 := by rw [← h3]; exact sw_gs_u (sw_gs_u y3 1 3 (by omega)) 3 2 (by decide)
  have k26 : σ1 26 = σ 26 := by subst h3; rfl
  refine ⟨_, mm_zone σ1 gs1 (by rw [k26]; omega) a b w ga gb gw, fun r2 σ2 q2 => ?_⟩
  rw [k26, e3, e0] at q2
  rcases q2 with ⟨m1, m2, m3⟩ | ⟨m1, m2, m3⟩ | ⟨m1, m2, m3⟩ | ⟨m1, m2, m3⟩
  · exfalso; omega
  · exfalso; omega
  · exfalso; rw [e12] at m1; omega
  have y2 : ∀ x : Nat, (x : Int) ≤ σ 1 0 → g x = (if (a ≤ (x : Int) ∧ (x : Int) < b + 1) ∨ (a ≤ σ 1 0 - x ∧ σ 1 0 - x < b + 1) then min (σ 2 x) w else σ 2 x) := fun x hx => y2 x hx
  have gs2 : sw_gs σ2 := by rw [← m3]; exact sw_gs_u (sw_gs_u (sw_gs_u (sw_gs_u gs1 27 _ ga) 28 _ gb) 29 _ gw) 26 3 (by omega)
  have y4 : ∀ x : Int, 0 ≤ x → x ≤ σ 1 0 → 1 ≤ g x.toNat ∧ g x.toNat ≤ σ 1 1 := fun x x1 x2 => by
    rw [y2 x.toNat (by omega)]
    have := hL x x1 x2
    split <;> omega
  subst h3
  subst m3
  refine ⟨_, h2, m2, ?_⟩
  have hzn : ∀ z : Nat, (z : Int) < σ 1 3 + 1 → 0 ≤ (if 27 = 27 ∧ z = (σ 1 3).toNat then a else σ 27 z) ∧ (if 27 = 27 ∧ z = (σ 1 3).toNat then a else σ 27 z) ≤ (if 28 = 28 ∧ z = (σ 1 3).toNat then b else σ 28 z) ∧ (if 28 = 28 ∧ z = (σ 1 3).toNat then b else σ 28 z) ≤ σ 1 0 ∧ 1 ≤ (if 29 = 29 ∧ z = (σ 1 3).toNat then w else σ 29 z) ∧ (if 29 = 29 ∧ z = (σ 1 3).toNat then w else σ 29 z) ≤ 20 := fun z hz9 => by
    by_cases zz : z = (σ 1 3).toNat
    · rw [if_pos ⟨rfl, zz⟩, if_pos ⟨rfl, zz⟩, if_pos ⟨rfl, zz⟩]
      omega
    · rw [if_neg (fun y => zz y.2), if_neg (fun y => zz y.2), if_neg (fun y => zz y.2)]
      exact hzz z (by omega)
  have hln : ∀ j : Nat, (j : Int) ≤ σ 1 0 → sw_lm (sw_u (sw_u (sw_u (sw_u (sw_u (sw_u (sw_rp σ 2 g) 1 3 (σ 1 3 + 1)) 3 2 (-1)) 27 (σ 1 3).toNat a) 28 (σ 1 3).toNat b) 29 (σ 1 3).toNat w) 26 3 (σ 1 3 + 1)) j = g j := fun j hj => by
    rw [y2 j hj]
    have h6 := hlm j hj
    unfold sw_lm at h6
    rw [e1, e0, e3] at h6
    have ea : ∀ z : Nat, z < (σ 1 3).toNat → (sw_u (sw_u (sw_u (sw_u (sw_u (sw_u (sw_rp σ 2 g) 1 3 (σ 1 3 + 1)) 3 2 (-1)) 27 (σ 1 3).toNat a) 28 (σ 1 3).toNat b) 29 (σ 1 3).toNat w) 26 3 (σ 1 3 + 1)) 27 z = σ 27 z ∧ (sw_u (sw_u (sw_u (sw_u (sw_u (sw_u (sw_rp σ 2 g) 1 3 (σ 1 3 + 1)) 3 2 (-1)) 27 (σ 1 3).toNat a) 28 (σ 1 3).toNat b) 29 (σ 1 3).toNat w) 26 3 (σ 1 3 + 1)) 28 z = σ 28 z ∧ (sw_u (sw_u (sw_u (sw_u (sw_u (sw_u (sw_rp σ 2 g) 1 3 (σ 1 3 + 1)) 3 2 (-1)) 27 (σ 1 3).toNat a) 28 (σ 1 3).toNat b) 29 (σ 1 3).toNat w) 26 3 (σ 1 3 + 1)) 29 z = σ 29 z := fun z zz => ⟨show (if 27 = 27 ∧ z = (σ 1 3).toNat then a else σ 27 z) = σ 27 z from if_neg (fun y => by have := y.2; omega), show (if 28 = 28 ∧ z = (σ 1 3).toNat then b else σ 28 z) = σ 28 z from if_neg (fun y => by have := y.2; omega), show (if 29 = 29 ∧ z = (σ 1 3).toNat then w else σ 29 z) = σ 29 z from if_neg (fun y => by have := y.2; omega)⟩
    have f7 : (sw_u (sw_u (sw_u (sw_u (sw_u (sw_u (sw_rp σ 2 g) 1 3 (σ 1 3 + 1)) 3 2 (-1)) 27 (σ 1 3).toNat a) 28 (σ 1 3).toNat b) 29 (σ 1 3).toNat w) 26 3 (σ 1 3 + 1)) 27 (σ 1 3).toNat = a := show (if 27 = 27 ∧ (σ 1 3).toNat = (σ 1 3).toNat then a else σ 27 (σ 1 3).toNat) = a from if_pos ⟨rfl, rfl⟩
    have f8 : (sw_u (sw_u (sw_u (sw_u (sw_u (sw_u (sw_rp σ 2 g) 1 3 (σ 1 3 + 1)) 3 2 (-1)) 27 (σ 1 3).toNat a) 28 (σ 1 3).toNat b) 29 (σ 1 3).toNat w) 26 3 (σ 1 3 + 1)) 28 (σ 1 3).toNat = b := show (if 28 = 28 ∧ (σ 1 3).toNat = (σ 1 3).toNat then b else σ 28 (σ 1 3).toNat) = b from if_pos ⟨rfl, rfl⟩
    have f9 : (sw_u (sw_u (sw_u (sw_u (sw_u (sw_u (sw_rp σ 2 g) 1 3 (σ 1 3 + 1)) 3 2 (-1)) 27 (σ 1 3).toNat a) 28 (σ 1 3).toNat b) 29 (σ 1 3).toNat w) 26 3 (σ 1 3 + 1)) 29 (σ 1 3).toNat = w := show (if 29 = 29 ∧ (σ 1 3).toNat = (σ 1 3).toNat then w else σ 29 (σ 1 3).toNat) = w from if_pos ⟨rfl, rfl⟩
    have h7 := sw_aw_min h6 ea f7 f8 f9
    rw [show (σ 1 3).toNat + 1 = (σ 1 3 + 1).toNat by omega, ← e0, ← e1] at h7
    rw [← e0]
    exact h7
  exact sw_J_mono (N := N) (by omega) ⟨⟨⟨gs2, hD, hV, y4, hpl, hspd, hbr, her, hmg, h61, h514, h513, h59, hro⟩, gs2, ⟨e0, e1, e10, e11, e12, e16, e17, e18, e19, e20, e32, e33, e39, er⟩, ⟨rfl, (show 0 ≤ σ 1 3 + 1 ∧ σ 1 3 + 1 ≤ 6 by omega), hzn, hln⟩⟩, ⟨hA, e2, (Or.inl rfl), ⟨e7, hst, hsp⟩, e13⟩, ⟨⟨el0, hl0⟩, ⟨el1, hl1⟩, ⟨ewt, hwt⟩, ⟨ekp, hkp⟩⟩, b0, ⟨efi, hsh⟩⟩
