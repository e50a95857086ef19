theorem lp_far (σ : sw_S) (hσ : sw_gs σ) (hD : 10 ≤ σ 1 0 ∧ σ 1 0 ≤ 400) (hV : 1 ≤ σ 1 1 ∧ σ 1 1 ≤ 20) (hA : 1 ≤ σ 1 2 ∧ σ 1 2 ≤ 5) (hL : ∀ x : Int, 0 ≤ x → x ≤ σ 1 0 → 1 ≤ σ 2 x.toNat ∧ σ 2 x.toNat ≤ σ 1 1) (hw : σ 3 3 = 1 ∨ σ 3 3 = -1) (d b : Int) (hd : 1 ≤ d ∧ d ≤ 400) (hb : 0 ≤ b ∧ b ≤ σ 1 1) (hF : ∀ d' b' : Int, 0 ≤ d' → d' ≤ d → 0 ≤ b' → b' ≤ σ 1 1 → sw_F (sw_R (σ 2) (σ 1 0) (σ 1 1) (σ 1 2) (σ 3 2) (σ 3 3)) d' b' (σ 4 (d' * 21 + b').toNat)) (n0 : Nat) (hR : (sw_R (σ 2) (σ 1 0) (σ 1 1) (σ 1 2) (σ 3 2) (σ 3 3)) (n0 + 1) d b) (hm : ∀ m : Nat, m < n0 + 1 → ¬ (sw_R (σ 2) (σ 1 0) (σ 1 1) (σ 1 2) (σ 3 2) (σ 3 3)) m d b) (g : Int) (hg0 : 0 ≤ g ∧ g ≤ d ∧ g ≤ σ 1 1) (hg : ∀ t, 0 ≤ t → ((sw_tk (σ 2) (σ 1 0) (σ 1 1) (σ 3 2 - σ 3 3 * d) (σ 3 3 * t) ∧ t ≤ d) ↔ t ≤ g)) (Q : Option sw_Vl → sw_S → Prop) (hQ : ∀ s : Int, sw_bs (σ 2) (σ 1 0) (σ 1 1) (σ 1 2) (σ 3 2) (σ 3 3) n0 d b s → s ≤ σ 1 1 → Q (some (.inl s)) σ) : ∀ (n : Nat) (sp : Int), 0 ≤ sp → sp ≤ min (b + σ 1 2) g → (∀ t, sp < t → t ≤ min (b + σ 1 2) g → ¬ (sw_R (σ 2) (σ 1 0) (σ 1 1) (σ 1 2) (σ 3 2) (σ 3 3)) n0 (d - t) t) → sp.toNat < n → sw_E sw_ly sw_rho M_X1_farthestOfBest 48 [(5, .inl sp), (4, .inl (max (b - σ 1 2) 1)), (3, .inl (n0 : Int)), (0, .inr (.inr 3)), (1, .inl d), (2, .inl b)] [] σ Q := by
  intro n
  induction n with
  | zero =>
    intro sp hs0 hsp hno2 hn
    omega
  | succ n ih =>
    intro sp hs0 hsp hno2 hn
    refine sw_blk k_X1_farthestOfBest 2 52 [(5, .inl sp), (4, .inl (max (b - σ 1 2) 1)), (3, .inl (n0 : Int)), (0, .inr (.inr 3)), (1, .inl d), (2, .inl b)] [.inl (max (b - σ 1 2) 1), .inl sp] σ rfl ?_
    refine sw_icmp_le k_X1_farthestOfBest rfl (by omega) (by omega) 75 55 (by decide) rfl (fun c1 => ?_) (fun c1 => ?_)
    · refine sw_blk k_X1_farthestOfBest 1 77 [(5, .inl sp), (4, .inl (max (b - σ 1 2) 1)), (3, .inl (n0 : Int)), (0, .inr (.inr 3)), (1, .inl d), (2, .inl b)] [.inl (max (b - σ 1 2) 1)] σ rfl ?_
      refine sw_ireturn k_X1_farthestOfBest rfl rfl ?_
      obtain ⟨s, s1, s2, s3, s4, s5, s6⟩ := hR
      have sg := (hg s (by omega)).mp ⟨s5, s2⟩
      have es : s = max (b - σ 1 2) 1 := by
        rcases Int.lt_or_le sp s with y | y
        · exact absurd s6 (hno2 s y (by omega))
        · omega
      subst es
      exact hQ _ ⟨s1, s2, s3, s4, s5, s6, fun t h1 h2 h3 h4 => hno2 t (by omega) (by have := (hg t (by omega)).mp ⟨h4, h2⟩; omega)⟩ (by omega)
    · refine sw_blk k_X1_farthestOfBest 3 59 [(5, .inl sp), (4, .inl (max (b - σ 1 2) 1)), (3, .inl (n0 : Int)), (0, .inr (.inr 3)), (1, .inl d), (2, .inl b)] [.inl sp, .inl d, .inr (.inr 3)] σ rfl ?_
      refine sw_callV k_X1_farthestOfBest rfl cV_X1_ticksAfter ml_X1_75 ⟨by decide, by decide⟩ 3 rfl rfl [.inl d, .inl sp] [] rfl rfl (Nat.le_of_ble_eq_true rfl) 62 rfl (sp_ticksAfter σ d sp (by omega) (by omega)) (fun r2 σ3 hq4 => ?_)
      obtain ⟨rfl, rfl⟩ := hq4
      have hx := hF (d - sp) sp (by omega) (by omega) (by omega) (by omega)
      have gx : sw_g (σ 4 ((d - sp) * 21 + sp).toNat) := hσ 4 _
      have htk := (hg sp (by omega)).mpr (by omega)
      have hn4 := sw_R_le _ _ _ hR
      refine sw_blk k_X1_farthestOfBest 1 63 [(5, .inl sp), (4, .inl (max (b - σ 1 2) 1)), (3, .inl (n0 : Int)), (0, .inr (.inr 3)), (1, .inl d), (2, .inl b)] [.inl (n0 : Int), .inl (σ 4 ((d - sp) * 21 + sp).toNat)] σ rfl ?_
      refine sw_icmp_ne k_X1_farthestOfBest rfl (hσ 4 _) (by omega) 69 66 (by decide) rfl (fun c5 => ?_) (fun c5 => ?_)
      · refine sw_blk k_X1_farthestOfBest 2 48 [(5, .inl (sp + (-1))), (4, .inl (max (b - σ 1 2) 1)), (3, .inl (n0 : Int)), (0, .inr (.inr 3)), (1, .inl d), (2, .inl b)] [] σ rfl ?_
        have hno : ¬ (sw_R (σ 2) (σ 1 0) (σ 1 1) (σ 1 2) (σ 3 2) (σ 3 3)) n0 (d - sp) sp := by
          intro z
          rcases hx with ⟨-, hx⟩ | ⟨x1, x2, x3, x4⟩
          · exact hx _ z
          · rcases Int.lt_trichotomy (σ 4 ((d - sp) * 21 + sp).toNat) n0 with y | y | y
            · exact hm ((σ 4 ((d - sp) * 21 + sp).toNat).toNat + 1) (by omega) ⟨sp, by omega, by omega, by omega, by omega, htk.1, x3⟩
            · exact c5 y
            · exact x4 n0 y z
        exact ih (sp + (-1)) (by omega) (by omega) (fun t h1 h2 => by rcases Int.lt_or_le sp t with y | y; exact hno2 t y h2; rw [show t = sp by omega]; exact hno) (by omega)
      · refine sw_blk k_X1_farthestOfBest 1 68 [(5, .inl sp), (4, .inl (max (b - σ 1 2) 1)), (3, .inl (n0 : Int)), (0, .inr (.inr 3)), (1, .inl d), (2, .inl b)] [.inl sp] σ rfl ?_
        refine sw_ireturn k_X1_farthestOfBest rfl rfl ?_
        refine hQ sp ⟨by omega, by omega, by omega, by omega, htk.1, ?_, fun t h1 h2 h3 h4 => hno2 t h1 (by have := (hg t (by omega)).mp ⟨h4, h2⟩; omega)⟩ (by omega)
        rcases hx with ⟨hx, -⟩ | ⟨x1, x2, x3, x4⟩
        · omega
        · rw [c5] at x3; exact x3
theorem sp_far (σ : sw_S) (hσ : sw_gs σ) (hD : 10 ≤ σ 1 0 ∧ σ 1 0 ≤ 400) (hV : 1 ≤ σ 1 1 ∧ σ 1 1 ≤ 20) (hA : 1 ≤ σ 1 2 ∧ σ 1 2 ≤ 5) (hL : ∀ x : Int, 0 ≤ x → x ≤ σ 1 0 → 1 ≤ σ 2 x.toNat ∧ σ 2 x.toNat ≤ σ 1 1) (hw : σ 3 3 = 1 ∨ σ 3 3 = -1) (d b : Int) (hd : 1 ≤ d ∧ d ≤ 400) (hb : 0 ≤ b ∧ b ≤ σ 1 1) (hp : 0 ≤ σ 3 2 - σ 3 3 * d ∧ σ 3 2 - σ 3 3 * d ≤ σ 1 0) (hF : ∀ d' b' : Int, 0 ≤ d' → d' ≤ d → 0 ≤ b' → b' ≤ σ 1 1 → sw_F (sw_R (σ 2) (σ 1 0) (σ 1 1) (σ 1 2) (σ 3 2) (σ 3 3)) d' b' (σ 4 (d' * 21 + b').toNat)) (n0 : Nat) (hR : (sw_R (σ 2) (σ 1 0) (σ 1 1) (σ 1 2) (σ 3 2) (σ 3 3)) (n0 + 1) d b) (hm : ∀ m : Nat, m < n0 + 1 → ¬ (sw_R (σ 2) (σ 1 0) (σ 1 1) (σ 1 2) (σ 3 2) (σ 3 3)) m d b) : sw_Con sw_ly sw_rho M_X1_farthestOfBest [.inr (.inr 3), .inl d, .inl b] σ (fun r σ' => σ = σ' ∧ ∃ s : Int, r = some (.inl s) ∧ sw_bs (σ 2) (σ 1 0) (σ 1 1) (σ 1 2) (σ 3 2) (σ 3 3) n0 d b s ∧ s ≤ σ 1 1) := by
  refine sw_con (by decide) (Nat.le_of_ble_eq_true rfl) ?_
  refine sw_blk k_X1_farthestOfBest 7 10 [(0, .inr (.inr 3)), (1, .inl d), (2, .inl b)] [.inl ((d * 21) + b), .inr (.inr 4)] σ rfl ?_
  refine sw_iald k_X1_farthestOfBest rfl (i := 4) (n := 8421) rfl (by decide) (by omega) (by omega) 11 rfl ?_
  refine sw_blk k_X1_farthestOfBest 9 24 [(3, .inl ((σ 4 (((d * 21) + b).toNat)) - 1)), (0, .inr (.inr 3)), (1, .inl d), (2, .inl b)] [.inl 1, .inl (b - (σ 1 2))] σ rfl ?_
  refine sw_callS k_X1_farthestOfBest rfl cS_J9_max_7cf53 ml_X1_72 ⟨by decide, by decide⟩ [.inl (b - (σ 1 2)), .inl 1] [] rfl rfl (Nat.le_of_ble_eq_true rfl) 27 rfl (sp_max σ (b - (σ 1 2)) 1 (by omega) (by omega)) (fun r1 σ2 hq3 => ?_)
  obtain ⟨rfl, rfl⟩ := hq3
  refine sw_blk k_X1_farthestOfBest 8 40 [(4, .inl (max (b - (σ 1 2)) 1)), (3, .inl ((σ 4 (((d * 21) + b).toNat)) - 1)), (0, .inr (.inr 3)), (1, .inl d), (2, .inl b)] [.inl d, .inr (.inr 3), .inl (b + (σ 1 2))] σ rfl ?_
  refine sw_callV k_X1_farthestOfBest rfl cV_X1_greatestFrom ml_X1_69 ⟨by decide, by decide⟩ 3 rfl rfl [.inl d] [.inl (b + (σ 1 2))] rfl rfl (Nat.le_of_ble_eq_true rfl) 43 rfl (sp_gfrom σ hσ hD hV hA hL hw d (by omega) hp) (fun r9 σ10 hq11 => ?_)
  obtain ⟨rfl, g4, rfl, a5, b6, cc7, hg8⟩ := hq11
  refine sw_blk k_X1_farthestOfBest 0 43 [(4, .inl (max (b - (σ 1 2)) 1)), (3, .inl ((σ 4 (((d * 21) + b).toNat)) - 1)), (0, .inr (.inr 3)), (1, .inl d), (2, .inl b)] [.inl g4, .inl (b + (σ 1 2))] σ rfl ?_
  refine sw_callS k_X1_farthestOfBest rfl cS_J9_min_7cf53 ml_X1_53 ⟨by decide, by decide⟩ [.inl (b + (σ 1 2)), .inl g4] [] rfl rfl (Nat.le_of_ble_eq_true rfl) 46 rfl (sp_min σ (b + (σ 1 2)) g4 (by omega) (by omega)) (fun r12 σ13 hq14 => ?_)
  obtain ⟨rfl, rfl⟩ := hq14
  refine sw_blk k_X1_farthestOfBest 1 48 [(5, .inl (min (b + (σ 1 2)) g4)), (4, .inl (max (b - (σ 1 2)) 1)), (3, .inl ((σ 4 (((d * 21) + b).toNat)) - 1)), (0, .inr (.inr 3)), (1, .inl d), (2, .inl b)] [] σ rfl ?_
  have hx := hF d b (by omega) (by omega) (by omega) (by omega)
  have hn4 := sw_R_le _ _ _ hR
  have eL : σ 4 (d * 21 + b).toNat = (n0 : Int) + 1 := by
    rcases hx with ⟨-, hx⟩ | ⟨x1, x2, x3, x4⟩
    · exact absurd hR (hx _)
    · rcases Int.lt_trichotomy (σ 4 (d * 21 + b).toNat) ((n0 : Int) + 1) with y | y | y
      · exact absurd x3 (hm _ (by omega))
      · exact y
      · exact absurd hR (x4 _ (by omega))
  rw [eL, show (n0 : Int) + 1 - 1 = (n0 : Int) by omega]
  exact lp_far σ hσ hD hV hA hL hw d b hd hb hF n0 hR hm g4 (by omega) hg8 _ (fun s z1 z2 => ⟨rfl, s, rfl, z1, z2⟩) 500 _ (by omega) (by omega) (fun t y1 y2 => by omega) (by omega)
def sw_fkc (c : Nat) (σ τ : sw_S) : Prop := ∀ i j, i ≠ 4 → i ≠ c → (i = 3 → j ≠ 2 ∧ j ≠ 3 ∧ j ≠ 4) → τ i j = σ i j
theorem lp_tracea (lim : Nat → Int) (D V A q w : Int) (hD : 10 ≤ D ∧ D ≤ 400) (hV : 1 ≤ V ∧ V ≤ 20) (hA : 1 ≤ A ∧ A ≤ 5) (hL : ∀ x : Int, 0 ≤ x → x ≤ D → 1 ≤ lim x.toNat ∧ lim x.toNat ≤ V) (hw : w = 1 ∨ w = -1) (p0 : Int) (Q : Option sw_Vl → sw_S → Prop) : ∀ (n : Nat) (r k : Nat) (d b : Int) (τ : sw_S), (0 ≤ b ∧ b ≤ V) → (0 ≤ d ∧ d ≤ 400) → (0 ≤ q - w * d ∧ q - w * d ≤ D) → k + r ≤ 400 → (sw_R lim D V A q w) r d b → (∀ m : Nat, m < r → ¬ (sw_R lim D V A q w) m d b) → sw_gs τ → τ 2 = lim → τ 1 0 = D → τ 1 1 = V → τ 1 2 = A → τ 3 2 = q → τ 3 3 = w → (∀ d' b' : Int, 0 ≤ d' → d' ≤ d → 0 ≤ b' → b' ≤ V → sw_F (sw_R lim D V A q w) d' b' (τ 4 (d' * 21 + b').toNat)) → (∀ τ' : sw_S, (∀ i j, i ≠ 25 → τ' i j = τ i j) → (∀ j, j < k → τ' 25 j = τ 25 j) → sw_gs τ' → sw_gp lim D V A q w r d b (τ' 25) k → Q (some (.inl ((k + r : Nat) : Int))) τ') → r < n → sw_E sw_ly sw_rho M_X1_trace 27 [(7, .inl (k : Int)), (6, .inl b), (5, .inl d), (4, .inl ((k + r : Nat) : Int)), (0, .inr (.inr 3)), (1, .inl p0), (2, .inl q), (3, .inr (.inr 25))] [] τ Q := by
  intro n
  induction n with
  | zero =>
    intro r k d b τ hb hd hp hk hR hm hτ h2 h10 h11 h12 t2 t3 hF hQ hn
    omega
  | succ n ih =>
    intro r k d b τ hb hd hp hk hR hm hτ h2 h10 h11 h12 t2 t3 hF hQ hn
    refine sw_blk k_X1_trace 2 31 [(7, .inl (k : Int)), (6, .inl b), (5, .inl d), (4, .inl ((k + r : Nat) : Int)), (0, .inr (.inr 3)), (1, .inl p0), (2, .inl q), (3, .inr (.inr 25))] [.inl ((k + r : Nat) : Int), .inl (k : Int)] τ rfl ?_
    refine sw_icmp_ge k_X1_trace rfl (by omega) (by omega) 68 34 (by decide) rfl (fun c1 => ?_) (fun c1 => ?_)
    · refine sw_blk k_X1_trace 1 70 [(7, .inl (k : Int)), (6, .inl b), (5, .inl d), (4, .inl ((k + r : Nat) : Int)), (0, .inr (.inr 3)), (1, .inl p0), (2, .inl q), (3, .inr (.inr 25))] [.inl ((k + r : Nat) : Int)] τ rfl ?_
      refine sw_ireturn k_X1_trace rfl rfl ?_
      have er : r = 0 := by omega
      subst er
      exact hQ τ (fun _ _ _ => rfl) (fun _ _ => rfl) hτ trivial
    · obtain ⟨r', er⟩ : ∃ r', r = r' + 1 := ⟨r - 1, by omega⟩
      have hdr := sw_R_le _ _ _ hR
      have hR2 := hR
      rw [er] at hR2
      have hm2 := hm
      rw [er] at hm2
      refine sw_blk k_X1_trace 3 39 [(7, .inl (k : Int)), (6, .inl b), (5, .inl d), (4, .inl ((k + r : Nat) : Int)), (0, .inr (.inr 3)), (1, .inl p0), (2, .inl q), (3, .inr (.inr 25))] [.inl b, .inl d, .inr (.inr 3)] τ rfl ?_
      refine sw_callV k_X1_trace rfl cV_X1_farthestOfBest ml_X1_56 ⟨by decide, by decide⟩ 3 rfl rfl [.inl d, .inl b] [] rfl rfl (Nat.le_of_ble_eq_true rfl) 42 rfl (sp_far τ hτ (by rw [h10]; exact hD) (by rw [h11]; exact hV) (by rw [h12]; exact hA) (by rw [h2, h10, h11]; exact hL) (by rw [t3]; exact hw) d b (by omega) (by rw [h11]; exact hb) (by rw [t2, t3, h10]; exact hp) (by rw [h2, h10, h11, h12, t2, t3]; exact hF) r' (by rw [h2, h10, h11, h12, t2, t3]; exact hR2) (by rw [h2, h10, h11, h12, t2, t3]; exact hm2)) (fun r2 σ3 hq4 => ?_)
      obtain ⟨rfl, s, rfl, hbs, hsv⟩ := hq4
      rw [h2, h10, h11, h12, t2, t3] at hbs
      rw [h11] at hsv
      have bs := hbs
      refine sw_blk k_X1_trace 7 54 [(6, .inl s), (7, .inl (k : Int)), (5, .inl d), (4, .inl ((k + r : Nat) : Int)), (0, .inr (.inr 3)), (1, .inl p0), (2, .inl q), (3, .inr (.inr 25))] [.inl ((τ 3 3) * s), .inl (k : Int), .inr (.inr 25)] τ rfl ?_
      refine sw_iast k_X1_trace rfl (i := 25) (n := 400) rfl (by decide) (by omega) (by omega) 55 rfl ?_
      refine sw_blk k_X1_trace 6 27 [(7, .inl ((k : Int) + 1)), (5, .inl (d - s)), (6, .inl s), (4, .inl ((k + r : Nat) : Int)), (0, .inr (.inr 3)), (1, .inl p0), (2, .inl q), (3, .inr (.inr 25))] [] (sw_u τ 25 ((k : Int).toNat) ((τ 3 3) * s)) rfl ?_
      refine sw_Lsub [(7, .inl ((k : Int) + 1)), (6, .inl s), (5, .inl (d - s)), (4, .inl ((k + r : Nat) : Int)), (0, .inr (.inr 3)), (1, .inl p0), (2, .inl q), (3, .inr (.inr 25))] [0, 2, 1, 3, 4, 5, 6, 7] rfl ?_
      obtain ⟨z1, z2, z3, z4, z5, z6, z7⟩ := hbs
      rw [show k + r = k + 1 + r' by omega]
      refine ih r' (k + 1) (d - s) s _ (by omega) (by omega) (by have a1 := z5.2.1; have a2 := z5.2.2.1; rcases hw with rfl | rfl <;> omega) (by omega) z6 (fun m hm3 hr2 => hm (m + 1) (by omega) ⟨s, z1, z2, z3, z4, z5, hr2⟩) (sw_gs_u hτ _ _ (by rw [t3]; rcases hw with rfl | rfl <;> omega)) h2 h10 h11 h12 t2 t3 (fun d' b' y1 y2 y3 y4 => hF d' b' y1 (by omega) y3 y4) (fun τ' y1 y2 y3 y4 => ?_) (by omega)
      have hk2 : τ' 25 k = w * s := by rw [y2 k (by omega), show ((k : Int).toNat) = k from rfl, sw_u_same, t3]
      have := hQ τ' (fun i j hi => by rw [y1 i j hi, sw_u_row _ _ hi]) (fun j hj => by rw [y2 j (by omega), sw_u_ne _ _ (fun y => by have := y.2; omega)]) y3 (by rw [er]; exact ⟨s, hk2, bs, y4⟩)
      rw [show k + r = k + 1 + r' by omega] at this
      exact this
theorem sp_tracea (σ : sw_S) (hσ : sw_gs σ) (hD : 10 ≤ σ 1 0 ∧ σ 1 0 ≤ 400) (hV : 1 ≤ σ 1 1 ∧ σ 1 1 ≤ 20) (hA : 1 ≤ σ 1 2 ∧ σ 1 2 ≤ 5) (hL : ∀ x : Int, 0 ≤ x → x ≤ σ 1 0 → 1 ≤ σ 2 x.toNat ∧ σ 2 x.toNat ≤ σ 1 1) (p q : Int) (hp : 0 ≤ p ∧ p ≤ σ 1 0) (hq : 0 ≤ q ∧ q ≤ σ 1 0) (hf : sw_fn σ) : sw_Con sw_ly sw_rho M_X1_trace [.inr (.inr 3), .inl p, .inl q, .inr (.inr 25)] σ (fun r σ' => sw_fkc 25 σ σ' ∧ sw_gs σ' ∧ sw_fn σ' ∧ ∃ n : Nat, r = some (.inl (n : Int)) ∧ (n : Int) ≤ 400 ∧ sw_R (σ 2) (σ 1 0) (σ 1 1) (σ 1 2) q (if p < q then 1 else -1) n (sw_abs (q - p)) 0 ∧ (∀ m : Nat, m < n → ¬ sw_R (σ 2) (σ 1 0) (σ 1 1) (σ 1 2) q (if p < q then 1 else -1) m (sw_abs (q - p)) 0) ∧ sw_gp (σ 2) (σ 1 0) (σ 1 1) (σ 1 2) q (if p < q then 1 else -1) n (sw_abs (q - p)) 0 (σ' 25) 0) := by
  refine sw_con (by decide) (Nat.le_of_ble_eq_true rfl) ?_
  refine sw_blk k_X1_trace 3 3 [(0, .inr (.inr 3)), (1, .inl p), (2, .inl q), (3, .inr (.inr 25))] [.inl q, .inl p, .inr (.inr 3)] σ rfl ?_
  refine sw_callV k_X1_trace rfl cV_X1_ticksBetween ml_X1_49 ⟨by decide, by decide⟩ 3 rfl rfl [.inl p, .inl q] [] rfl rfl (Nat.le_of_ble_eq_true rfl) 6 rfl (sp_ticksBetween σ hσ hD hV hA hL p q hp hq hf) (fun r1 τ hq1 => ?_)
  obtain ⟨hk, hτ, hfn, n, rfl, hn, hR, hm, hpq⟩ := hq1
  refine sw_blk k_X1_trace 2 8 [(0, .inr (.inr 3)), (1, .inl p), (2, .inl q), (3, .inr (.inr 25))] [.inl 400, .inl (n : Int)] τ rfl ?_
  refine sw_callS k_X1_trace rfl cS_J9_min_7cf53 ml_X1_53 ⟨by decide, by decide⟩ [.inl (n : Int), .inl 400] [] rfl rfl (Nat.le_of_ble_eq_true rfl) 11 rfl (sp_min τ (n : Int) 400 (by omega) (by decide)) (fun r2 τ2 hq2 => ?_)
  obtain ⟨rfl, rfl⟩ := hq2
  rw [show min (n : Int) 400 = (n : Int) by omega]
  refine sw_blk k_X1_trace 4 16 [(4, .inl (n : Int)), (0, .inr (.inr 3)), (1, .inl p), (2, .inl q), (3, .inr (.inr 25))] [.inl (q - p)] τ rfl ?_
  refine sw_callS k_X1_trace rfl cS_J9_abs_0f7a4 ml_X1_36 ⟨by decide, by decide⟩ [.inl (q - p)] [] rfl rfl (Nat.le_of_ble_eq_true rfl) 19 rfl (sp_abs τ (q - p) (by omega)) (fun r3 τ3 hq3 => ?_)
  obtain ⟨rfl, rfl⟩ := hq3
  refine sw_blk k_X1_trace 5 27 [(7, .inl 0), (6, .inl 0), (5, .inl (sw_abs (q - p))), (4, .inl (n : Int)), (0, .inr (.inr 3)), (1, .inl p), (2, .inl q), (3, .inr (.inr 25))] [] τ rfl ?_
  have e1 : τ 1 = σ 1 := funext fun j => sw_fk_1 hk j
  have e2 : τ 2 = σ 2 := sw_fk_2 hk
  by_cases epq : p = q
  · have en : n = 0 := by
      rcases Nat.eq_zero_or_pos n with z | z
      · exact z
      · exact absurd ⟨by subst epq; unfold sw_abs; omega, by omega⟩ (hm 0 z)
    subst en
    refine sw_blk k_X1_trace 2 31 [(7, .inl 0), (6, .inl 0), (5, .inl (sw_abs (q - p))), (4, .inl 0), (0, .inr (.inr 3)), (1, .inl p), (2, .inl q), (3, .inr (.inr 25))] [.inl 0, .inl 0] τ rfl ?_
    refine sw_icmp_ge k_X1_trace rfl (by decide) (by decide) 68 34 (by decide) rfl (fun _ => ?_) (fun z => absurd (by decide) z)
    refine sw_blk k_X1_trace 1 70 [(7, .inl 0), (6, .inl 0), (5, .inl (sw_abs (q - p))), (4, .inl 0), (0, .inr (.inr 3)), (1, .inl p), (2, .inl q), (3, .inr (.inr 25))] [.inl 0] τ rfl ?_
    exact sw_ireturn k_X1_trace rfl rfl ⟨fun i j a1 a2 a3 => hk i j a1 a3, hτ, hfn, 0, rfl, hn, hR, hm, trivial⟩
  · obtain ⟨t2, t3, t4⟩ := hpq epq
    have hab : sw_abs (q - p) ≤ 400 ∧ 0 ≤ sw_abs (q - p) := by unfold sw_abs; omega
    have hpl : q - (if p < q then 1 else -1) * sw_abs (q - p) = p := by unfold sw_abs; split <;> split <;> omega
    rcases hfn with z | ⟨f1, f2, f3, f4, f5⟩
    · omega
    have hfn : sw_fn τ := Or.inr ⟨f1, f2, f3, f4, f5⟩
    have h := lp_tracea (σ 2) (σ 1 0) (σ 1 1) (σ 1 2) q (if p < q then 1 else -1) hD hV hA hL (by split <;> decide) p (fun r σ' => sw_fkc 25 σ σ' ∧ sw_gs σ' ∧ sw_fn σ' ∧ ∃ n : Nat, r = some (.inl (n : Int)) ∧ (n : Int) ≤ 400 ∧ sw_R (σ 2) (σ 1 0) (σ 1 1) (σ 1 2) q (if p < q then 1 else -1) n (sw_abs (q - p)) 0 ∧ (∀ m : Nat, m < n → ¬ sw_R (σ 2) (σ 1 0) (σ 1 1) (σ 1 2) q (if p < q then 1 else -1) m (sw_abs (q - p)) 0) ∧ sw_gp (σ 2) (σ 1 0) (σ 1 1) (σ 1 2) q (if p < q then 1 else -1) n (sw_abs (q - p)) 0 (σ' 25) 0) (n + 1) n 0 (sw_abs (q - p)) 0 τ (by omega) (by omega) (by rw [hpl]; exact hp) (by omega) hR hm hτ e2 (by rw [e1]) (by rw [e1]) (by rw [e1]) t2 t3 (fun d' b' y1 y2 y3 y4 => by have := f5 d' b' y1 (by omega) y3 (by rw [e1]; exact y4); rw [e1, e2, t2, t3] at this; exact this) (fun τ' y1 y2 y3 y4 => by
      rw [Nat.zero_add]
      refine ⟨fun i j a1 a2 a3 => by rw [y1 i j a2]; exact hk i j a1 a3, y3, ?_, n, rfl, hn, hR, hm, y4⟩
      have z1 : τ' 1 = τ 1 := funext fun j => y1 1 j (by decide)
      have z2 : τ' 2 = τ 2 := funext fun j => y1 2 j (by decide)
      have z3 : τ' 3 = τ 3 := funext fun j => y1 3 j (by decide)
      have z4 : τ' 4 = τ 4 := funext fun j => y1 4 j (by decide)
      unfold sw_fn sw_rw
      rw [z1, z2, z3, z4]
      exact Or.inr ⟨f1, f2, f3, f4, f5⟩) (by omega)
    rw [Nat.zero_add] at h
    exact h
theorem lp_tracer (lim : Nat → Int) (D V A q w : Int) (hD : 10 ≤ D ∧ D ≤ 400) (hV : 1 ≤ V ∧ V ≤ 20) (hA : 1 ≤ A ∧ A ≤ 5) (hL : ∀ x : Int, 0 ≤ x → x ≤ D → 1 ≤ lim x.toNat ∧ lim x.toNat ≤ V) (hw : w = 1 ∨ w = -1) (p0 : Int) (Q : Option sw_Vl → sw_S → Prop) : ∀ (n : Nat) (r k : Nat) (d b : Int) (τ : sw_S), (0 ≤ b ∧ b ≤ V) → (0 ≤ d ∧ d ≤ 400) → (0 ≤ q - w * d ∧ q - w * d ≤ D) → k + r ≤ 400 → (sw_R lim D V A q w) r d b → (∀ m : Nat, m < r → ¬ (sw_R lim D V A q w) m d b) → sw_gs τ → τ 2 = lim → τ 1 0 = D → τ 1 1 = V → τ 1 2 = A → τ 3 2 = q → τ 3 3 = w → (∀ d' b' : Int, 0 ≤ d' → d' ≤ d → 0 ≤ b' → b' ≤ V → sw_F (sw_R lim D V A q w) d' b' (τ 4 (d' * 21 + b').toNat)) → (∀ τ' : sw_S, (∀ i j, i ≠ 10 → τ' i j = τ i j) → (∀ j, j < k → τ' 10 j = τ 10 j) → sw_gs τ' → sw_gp lim D V A q w r d b (τ' 10) k → Q (some (.inl ((k + r : Nat) : Int))) τ') → r < n → sw_E sw_ly sw_rho M_X1_trace 27 [(7, .inl (k : Int)), (6, .inl b), (5, .inl d), (4, .inl ((k + r : Nat) : Int)), (0, .inr (.inr 3)), (1, .inl p0), (2, .inl q), (3, .inr (.inr 10))] [] τ Q := by
  intro n
  induction n with
  | zero =>
    intro r k d b τ hb hd hp hk hR hm hτ h2 h10 h11 h12 t2 t3 hF hQ hn
    omega
  | succ n ih =>
    intro r k d b τ hb hd hp hk hR hm hτ h2 h10 h11 h12 t2 t3 hF hQ hn
    refine sw_blk k_X1_trace 2 31 [(7, .inl (k : Int)), (6, .inl b), (5, .inl d), (4, .inl ((k + r : Nat) : Int)), (0, .inr (.inr 3)), (1, .inl p0), (2, .inl q), (3, .inr (.inr 10))] [.inl ((k + r : Nat) : Int), .inl (k : Int)] τ rfl ?_
    refine sw_icmp_ge k_X1_trace rfl (by omega) (by omega) 68 34 (by decide) rfl (fun c1 => ?_) (fun c1 => ?_)
    · refine sw_blk k_X1_trace 1 70 [(7, .inl (k : Int)), (6, .inl b), (5, .inl d), (4, .inl ((k + r : Nat) : Int)), (0, .inr (.inr 3)), (1, .inl p0), (2, .inl q), (3, .inr (.inr 10))] [.inl ((k + r : Nat) : Int)] τ rfl ?_
      refine sw_ireturn k_X1_trace rfl rfl ?_
      have er : r = 0 := by omega
      subst er
      exact hQ τ (fun _ _ _ => rfl) (fun _ _ => rfl) hτ trivial
    · obtain ⟨r', er⟩ : ∃ r', r = r' + 1 := ⟨r - 1, by omega⟩
      have hdr := sw_R_le _ _ _ hR
      have hR2 := hR
      rw [er] at hR2
      have hm2 := hm
      rw [er] at hm2
      refine sw_blk k_X1_trace 3 39 [(7, .inl (k : Int)), (6, .inl b), (5, .inl d), (4, .inl ((k + r : Nat) : Int)), (0, .inr (.inr 3)), (1, .inl p0), (2, .inl q), (3, .inr (.inr 10))] [.inl b, .inl d, .inr (.inr 3)] τ rfl ?_
      refine sw_callV k_X1_trace rfl cV_X1_farthestOfBest ml_X1_56 ⟨by decide, by decide⟩ 3 rfl rfl [.inl d, .inl b] [] rfl rfl (Nat.le_of_ble_eq_true rfl) 42 rfl (sp_far τ hτ (by rw [h10]; exact hD) (by rw [h11]; exact hV) (by rw [h12]; exact hA) (by rw [h2, h10, h11]; exact hL) (by rw [t3]; exact hw) d b (by omega) (by rw [h11]; exact hb) (by rw [t2, t3, h10]; exact hp) (by rw [h2, h10, h11, h12, t2, t3]; exact hF) r' (by rw [h2, h10, h11, h12, t2, t3]; exact hR2) (by rw [h2, h10, h11, h12, t2, t3]; exact hm2)) (fun r2 σ3 hq4 => ?_)
      obtain ⟨rfl, s, rfl, hbs, hsv⟩ := hq4
      rw [h2, h10, h11, h12, t2, t3] at hbs
      rw [h11] at hsv
      have bs := hbs
      refine sw_blk k_X1_trace 7 54 [(6, .inl s), (7, .inl (k : Int)), (5, .inl d), (4, .inl ((k + r : Nat) : Int)), (0, .inr (.inr 3)), (1, .inl p0), (2, .inl q), (3, .inr (.inr 10))] [.inl ((τ 3 3) * s), .inl (k : Int), .inr (.inr 10)] τ rfl ?_
      refine sw_iast k_X1_trace rfl (i := 10) (n := 400) rfl (by decide) (by omega) (by omega) 55 rfl ?_
      refine sw_blk k_X1_trace 6 27 [(7, .inl ((k : Int) + 1)), (5, .inl (d - s)), (6, .inl s), (4, .inl ((k + r : Nat) : Int)), (0, .inr (.inr 3)), (1, .inl p0), (2, .inl q), (3, .inr (.inr 10))] [] (sw_u τ 10 ((k : Int).toNat) ((τ 3 3) * s)) rfl ?_
      refine sw_Lsub [(7, .inl ((k : Int) + 1)), (6, .inl s), (5, .inl (d - s)), (4, .inl ((k + r : Nat) : Int)), (0, .inr (.inr 3)), (1, .inl p0), (2, .inl q), (3, .inr (.inr 10))] [0, 2, 1, 3, 4, 5, 6, 7] rfl ?_
      obtain ⟨z1, z2, z3, z4, z5, z6, z7⟩ := hbs
      rw [show k + r = k + 1 + r' by omega]
      refine ih r' (k + 1) (d - s) s _ (by omega) (by omega) (by have a1 := z5.2.1; have a2 := z5.2.2.1; rcases hw with rfl | rfl <;> omega) (by omega) z6 (fun m hm3 hr2 => hm (m + 1) (by omega) ⟨s, z1, z2, z3, z4, z5, hr2⟩) (sw_gs_u hτ _ _ (by rw [t3]; rcases hw with rfl | rfl <;> omega)) h2 h10 h11 h12 t2 t3 (fun d' b' y1 y2 y3 y4 => hF d' b' y1 (by omega) y3 y4) (fun τ' y1 y2 y3 y4 => ?_) (by omega)
      have hk2 : τ' 10 k = w * s := by rw [y2 k (by omega), show ((k : Int).toNat) = k from rfl, sw_u_same, t3]
      have := hQ τ' (fun i j hi => by rw [y1 i j hi, sw_u_row _ _ hi]) (fun j hj => by rw [y2 j (by omega), sw_u_ne _ _ (fun y => by have := y.2; omega)]) y3 (by rw [er]; exact ⟨s, hk2, bs, y4⟩)
      rw [show k + r = k + 1 + r' by omega] at this
      exact this
theorem sp_tracer (σ : sw_S) (hσ : sw_gs σ) (hD : 10 ≤ σ 1 0 ∧ σ 1 0 ≤ 400) (hV : 1 ≤ σ 1 1 ∧ σ 1 1 ≤ 20) (hA : 1 ≤ σ 1 2 ∧ σ 1 2 ≤ 5) (hL : ∀ x : Int, 0 ≤ x → x ≤ σ 1 0 → 1 ≤ σ 2 x.toNat ∧ σ 2 x.toNat ≤ σ 1 1) (p q : Int) (hp : 0 ≤ p ∧ p ≤ σ 1 0) (hq : 0 ≤ q ∧ q ≤ σ 1 0) (hf : sw_fn σ) : sw_Con sw_ly sw_rho M_X1_trace [.inr (.inr 3), .inl p, .inl q, .inr (.inr 10)] σ (fun r σ' => sw_fkc 10 σ σ' ∧ sw_gs σ' ∧ sw_fn σ' ∧ ∃ n : Nat, r = some (.inl (n : Int)) ∧ (n : Int) ≤ 400 ∧ sw_R (σ 2) (σ 1 0) (σ 1 1) (σ 1 2) q (if p < q then 1 else -1) n (sw_abs (q - p)) 0 ∧ (∀ m : Nat, m < n → ¬ sw_R (σ 2) (σ 1 0) (σ 1 1) (σ 1 2) q (if p < q then 1 else -1) m (sw_abs (q - p)) 0) ∧ sw_gp (σ 2) (σ 1 0) (σ 1 1) (σ 1 2) q (if p < q then 1 else -1) n (sw_abs (q - p)) 0 (σ' 10) 0) := by
  refine sw_con (by decide) (Nat.le_of_ble_eq_true rfl) ?_
  refine sw_blk k_X1_trace 3 3 [(0, .inr (.inr 3)), (1, .inl p), (2, .inl q), (3, .inr (.inr 10))] [.inl q, .inl p, .inr (.inr 3)] σ rfl ?_
  refine sw_callV k_X1_trace rfl cV_X1_ticksBetween ml_X1_49 ⟨by decide, by decide⟩ 3 rfl rfl [.inl p, .inl q] [] rfl rfl (Nat.le_of_ble_eq_true rfl) 6 rfl (sp_ticksBetween σ hσ hD hV hA hL p q hp hq hf) (fun r1 τ hq1 => ?_)
  obtain ⟨hk, hτ, hfn, n, rfl, hn, hR, hm, hpq⟩ := hq1
  refine sw_blk k_X1_trace 2 8 [(0, .inr (.inr 3)), (1, .inl p), (2, .inl q), (3, .inr (.inr 10))] [.inl 400, .inl (n : Int)] τ rfl ?_
  refine sw_callS k_X1_trace rfl cS_J9_min_7cf53 ml_X1_53 ⟨by decide, by decide⟩ [.inl (n : Int), .inl 400] [] rfl rfl (Nat.le_of_ble_eq_true rfl) 11 rfl (sp_min τ (n : Int) 400 (by omega) (by decide)) (fun r2 τ2 hq2 => ?_)
  obtain ⟨rfl, rfl⟩ := hq2
  rw [show min (n : Int) 400 = (n : Int) by omega]
  refine sw_blk k_X1_trace 4 16 [(4, .inl (n : Int)), (0, .inr (.inr 3)), (1, .inl p), (2, .inl q), (3, .inr (.inr 10))] [.inl (q - p)] τ rfl ?_
  refine sw_callS k_X1_trace rfl cS_J9_abs_0f7a4 ml_X1_36 ⟨by decide, by decide⟩ [.inl (q - p)] [] rfl rfl (Nat.le_of_ble_eq_true rfl) 19 rfl (sp_abs τ (q - p) (by omega)) (fun r3 τ3 hq3 => ?_)
  obtain ⟨rfl, rfl⟩ := hq3
  refine sw_blk k_X1_trace 5 27 [(7, .inl 0), (6, .inl 0), (5, .inl (sw_abs (q - p))), (4, .inl (n : Int)), (0, .inr (.inr 3)), (1, .inl p), (2, .inl q), (3, .inr (.inr 10))] [] τ rfl ?_
  have e1 : τ 1 = σ 1 := funext fun j => sw_fk_1 hk j
  have e2 : τ 2 = σ 2 := sw_fk_2 hk
  by_cases epq : p = q
  · have en : n = 0 := by
      rcases Nat.eq_zero_or_pos n with z | z
      · exact z
      · exact absurd ⟨by subst epq; unfold sw_abs; omega, by omega⟩ (hm 0 z)
    subst en
    refine sw_blk k_X1_trace 2 31 [(7, .inl 0), (6, .inl 0), (5, .inl (sw_abs (q - p))), (4, .inl 0), (0, .inr (.inr 3)), (1, .inl p), (2, .inl q), (3, .inr (.inr 10))] [.inl 0, .inl 0] τ rfl ?_
    refine sw_icmp_ge k_X1_trace rfl (by decide) (by decide) 68 34 (by decide) rfl (fun _ => ?_) (fun z => absurd (by decide) z)
    refine sw_blk k_X1_trace 1 70 [(7, .inl 0), (6, .inl 0), (5, .inl (sw_abs (q - p))), (4, .inl 0), (0, .inr (.inr 3)), (1, .inl p), (2, .inl q), (3, .inr (.inr 10))] [.inl 0] τ rfl ?_
    exact sw_ireturn k_X1_trace rfl rfl ⟨fun i j a1 a2 a3 => hk i j a1 a3, hτ, hfn, 0, rfl, hn, hR, hm, trivial⟩
  · obtain ⟨t2, t3, t4⟩ := hpq epq
    have hab : sw_abs (q - p) ≤ 400 ∧ 0 ≤ sw_abs (q - p) := by unfold sw_abs; omega
    have hpl : q - (if p < q then 1 else -1) * sw_abs (q - p) = p := by unfold sw_abs; split <;> split <;> omega
    rcases hfn with z | ⟨f1, f2, f3, f4, f5⟩
    · omega
    have hfn : sw_fn τ := Or.inr ⟨f1, f2, f3, f4, f5⟩
    have h := lp_tracer (σ 2) (σ 1 0) (σ 1 1) (σ 1 2) q (if p < q then 1 else -1) hD hV hA hL (by split <;> decide) p (fun r σ' => sw_fkc 10 σ σ' ∧ sw_gs σ' ∧ sw_fn σ' ∧ ∃ n : Nat, r = some (.inl (n : Int)) ∧ (n : Int) ≤ 400 ∧ sw_R (σ 2) (σ 1 0) (σ 1 1) (σ 1 2) q (if p < q then 1 else -1) n (sw_abs (q - p)) 0 ∧ (∀ m : Nat, m < n → ¬ sw_R (σ 2) (σ 1 0) (σ 1 1) (σ 1 2) q (if p < q then 1 else -1) m (sw_abs (q - p)) 0) ∧ sw_gp (σ 2) (σ 1 0) (σ 1 1) (σ 1 2) q (if p < q then 1 else -1) n (sw_abs (q - p)) 0 (σ' 10) 0) (n + 1) n 0 (sw_abs (q - p)) 0 τ (by omega) (by omega) (by rw [hpl]; exact hp) (by omega) hR hm hτ e2 (by rw [e1]) (by rw [e1]) (by rw [e1]) t2 t3 (fun d' b' y1 y2 y3 y4 => by have := f5 d' b' y1 (by omega) y3 (by rw [e1]; exact y4); rw [e1, e2, t2, t3] at this; exact this) (fun τ' y1 y2 y3 y4 => by
      rw [Nat.zero_add]
      refine ⟨fun i j a1 a2 a3 => by rw [y1 i j a2]; exact hk i j a1 a3, y3, ?_, n, rfl, hn, hR, hm, y4⟩
      have z1 : τ' 1 = τ 1 := funext fun j => y1 1 j (by decide)
      have z2 : τ' 2 = τ 2 := funext fun j => y1 2 j (by decide)
      have z3 : τ' 3 = τ 3 := funext fun j => y1 3 j (by decide)
      have z4 : τ' 4 = τ 4 := funext fun j => y1 4 j (by decide)
      unfold sw_fn sw_rw
      rw [z1, z2, z3, z4]
      exact Or.inr ⟨f1, f2, f3, f4, f5⟩) (by omega)
    rw [Nat.zero_add] at h
    exact h
