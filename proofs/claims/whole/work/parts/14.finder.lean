/-- rides of n ticks toward the end q by the way w, d places from it, behind a tick of speed b: no tick stands, turns or goes beyond -/
def sw_R (lim : Nat → Int) (D V A q w : Int) : Nat → Int → Int → Prop
  | 0, d, b => d = 0 ∧ b ≤ A
  | n + 1, d, b => ∃ s, 1 ≤ s ∧ s ≤ d ∧ b - A ≤ s ∧ s ≤ b + A ∧ sw_tk lim D V (q - w * d) (w * s) ∧ sw_R lim D V A q w n (d - s) s
abbrev sw_Rt : Type := Nat → Int → Int → Prop
/-- the fewest ticks, a million where there is no ride -/
def sw_F (R : sw_Rt) (d b L : Int) : Prop := (L = 1000000 ∧ ∀ n, ¬ R n d b) ∨ (0 ≤ L ∧ L ≤ d ∧ R L.toNat d b ∧ ∀ m : Nat, (m : Int) < L → ¬ R m d b)
def sw_mi (R : sw_Rt) (d lo sp m : Int) : Prop := (m = 1000000 ∧ ∀ s, lo ≤ s → s < sp → ∀ n, ¬ R n (d - s) s) ∨ (1 ≤ m ∧ m ≤ d ∧ (∃ s, lo ≤ s ∧ s < sp ∧ R (m - 1).toNat (d - s) s) ∧ ∀ s, lo ≤ s → s < sp → ∀ n : Nat, (n : Int) + 1 < m → ¬ R n (d - s) s)
theorem sw_mi_0 (R : sw_Rt) (d lo : Int) : sw_mi R d lo lo 1000000 := Or.inl ⟨rfl, fun s h1 h2 => by omega⟩
theorem sw_mi_s {R : sw_Rt} {d lo sp m x : Int} (h : sw_mi R d lo sp m) (hd : d ≤ 400) (h1 : 1 ≤ sp) (hl : lo ≤ sp) (h2 : sp ≤ d) (hx : sw_F R (d - sp) sp x) : sw_mi R d lo (sp + 1) (min m (x + 1)) := by
  have cs : ∀ s, lo ≤ s → s < sp + 1 → s < sp ∨ s = sp := fun s _ _ => by omega
  rcases h with ⟨e, hn⟩ | ⟨m1, m2, ⟨s0, a1, a2, a3⟩, m4⟩
  · subst e
    rcases hx with ⟨e2, hx⟩ | ⟨x1, x2, x3, x4⟩
    · left
      refine ⟨by omega, fun s b1 b2 n => ?_⟩
      rcases cs s b1 b2 with b3 | b3
      · exact hn s b1 b3 n
      · subst b3; exact hx n
    · right
      have e3 : min (1000000 : Int) (x + 1) = x + 1 := by omega
      rw [e3]
      refine ⟨by omega, by omega, ⟨sp, hl, by omega, by rw [show x + 1 - 1 = x by omega]; exact x3⟩, fun s b1 b2 n hn2 => ?_⟩
      rcases cs s b1 b2 with b3 | b3
      · exact hn s b1 b3 n
      · subst b3; exact x4 n (by omega)
  · right
    rcases hx with ⟨e2, hx⟩ | ⟨x1, x2, x3, x4⟩
    · have e3 : min m (x + 1) = m := by omega
      rw [e3]
      refine ⟨m1, m2, ⟨s0, a1, by omega, a3⟩, fun s b1 b2 n hn2 => ?_⟩
      rcases cs s b1 b2 with b3 | b3
      · exact m4 s b1 b3 n hn2
      · subst b3; exact hx n
    · rcases Int.lt_or_le (x + 1) m with q | q
      · have e3 : min m (x + 1) = x + 1 := by omega
        rw [e3]
        refine ⟨by omega, by omega, ⟨sp, hl, by omega, by rw [show x + 1 - 1 = x by omega]; exact x3⟩, fun s b1 b2 n hn2 => ?_⟩
        rcases cs s b1 b2 with b3 | b3
        · exact m4 s b1 b3 n (by omega)
        · subst b3; exact x4 n (by omega)
      · have e3 : min m (x + 1) = m := by omega
        rw [e3]
        refine ⟨m1, m2, ⟨s0, a1, by omega, a3⟩, fun s b1 b2 n hn2 => ?_⟩
        rcases cs s b1 b2 with b3 | b3
        · exact m4 s b1 b3 n hn2
        · subst b3; exact x4 n (by omega)
theorem sw_mi_F {lim : Nat → Int} {D V A q w d b g sp m : Int} (h : sw_mi (sw_R lim D V A q w) d (max (b - A) 1) sp m) (hd : 1 ≤ d) (hg : ∀ t, 0 ≤ t → ((sw_tk lim D V (q - w * d) (w * t) ∧ t ≤ d) ↔ t ≤ g)) (hs : min (b + A) g < sp) (hs2 : sp ≤ min (b + A) g + 1 ∨ sp = max (b - A) 1) : sw_F (sw_R lim D V A q w) d b m := by
  have key : ∀ n, sw_R lim D V A q w (n + 1) d b ↔ ∃ s, max (b - A) 1 ≤ s ∧ s < sp ∧ sw_R lim D V A q w n (d - s) s := by
    intro n
    constructor
    · rintro ⟨s, h1, h2, h3, h4, h5, h6⟩
      have := (hg s (by omega)).mp ⟨h5, h2⟩
      exact ⟨s, by omega, by omega, h6⟩
    · rintro ⟨s, h1, h2, h6⟩
      have := (hg s (by omega)).mpr (by omega)
      exact ⟨s, by omega, this.2, by omega, by omega, this.1, h6⟩
  have k0 : ¬ sw_R lim D V A q w 0 d b := fun z => by have := z.1; omega
  rcases h with ⟨e, hn⟩ | ⟨m1, m2, ⟨s0, a1, a2, a3⟩, m4⟩
  · left
    refine ⟨e, fun n hr => ?_⟩
    cases n with
    | zero => exact k0 hr
    | succ n =>
      obtain ⟨s, b1, b2, b3⟩ := (key n).mp hr
      exact hn s b1 b2 n b3
  · right
    have e1 : m.toNat = (m - 1).toNat + 1 := by omega
    refine ⟨by omega, m2, by rw [e1]; exact (key _).mpr ⟨s0, a1, a2, a3⟩, fun n hn2 hr => ?_⟩
    cases n with
    | zero => exact k0 hr
    | succ n =>
      obtain ⟨s, b1, b2, b3⟩ := (key n).mp hr
      exact m4 s b1 b2 n (by omega) b3
theorem sp_gsp (σ : sw_S) (hσ : sw_gs σ) (p w : Int) (hw : w = 1 ∨ w = -1) (hp : 0 ≤ p ∧ p ≤ σ 1 0) (hD : σ 1 0 ≤ 400) (hV : 1 ≤ σ 1 1 ∧ σ 1 1 ≤ 20) (h0 : ∀ x : Int, 0 ≤ x → x ≤ σ 1 0 → 0 ≤ σ 2 x.toNat) : sw_Con sw_ly sw_rho M_X3_greatestSpeed [.inr (.inr 1), .inl p, .inl w] σ (fun r σ' => σ = σ' ∧ ∃ g : Int, r = some (.inl g) ∧ 0 ≤ g ∧ g ≤ σ 1 1 ∧ ∀ t, 0 ≤ t → (sw_tk (σ 2) (σ 1 0) (σ 1 1) p (w * t) ↔ t ≤ g)) := by
  rcases hw with rfl | rfl
  · exact sp_gspd σ hσ p hp hD hV h0
  · exact sp_gspu σ hσ p hp hD hV h0
theorem sp_gfrom (σ : sw_S) (hσ : sw_gs σ) (hD : 10 ≤ σ 1 0 ∧ σ 1 0 ≤ 400) (hV : 1 ≤ σ 1 1 ∧ σ 1 1 ≤ 20) (hA : 1 ≤ σ 1 2 ∧ σ 1 2 ≤ 5) (hL : ∀ x : Int, 0 ≤ x → x ≤ σ 1 0 → 1 ≤ σ 2 x.toNat ∧ σ 2 x.toNat ≤ σ 1 1) (hw : σ 3 3 = 1 ∨ σ 3 3 = -1) (d : Int) (hd : 0 ≤ d ∧ d ≤ 400) (hp : 0 ≤ σ 3 2 - σ 3 3 * d ∧ σ 3 2 - σ 3 3 * d ≤ σ 1 0) : sw_Con sw_ly sw_rho M_X1_greatestFrom [.inr (.inr 3), .inl d] σ (fun r σ' => σ = σ' ∧ ∃ g : Int, r = some (.inl g) ∧ 0 ≤ g ∧ g ≤ d ∧ g ≤ σ 1 1 ∧ ∀ t, 0 ≤ t → ((sw_tk (σ 2) (σ 1 0) (σ 1 1) (σ 3 2 - σ 3 3 * d) (σ 3 3 * t) ∧ t ≤ d) ↔ t ≤ g)) := by
  refine sw_con (by decide) (Nat.le_of_ble_eq_true rfl) ?_
  refine sw_blk k_X1_greatestFrom 11 19 [(0, .inr (.inr 3)), (1, .inl d)] [.inl (σ 3 3), .inl ((σ 3 2) - ((σ 3 3) * d)), .inr (.inr 1)] σ rfl ?_
  refine sw_callV k_X1_greatestFrom rfl cV_X3_greatestSpeed ml_X1_78 ⟨by decide, by decide⟩ 1 rfl rfl [.inl ((σ 3 2) - ((σ 3 3) * d)), .inl (σ 3 3)] [] rfl rfl (Nat.le_of_ble_eq_true rfl) 22 rfl (sp_gsp σ hσ ((σ 3 2) - ((σ 3 3) * d)) (σ 3 3) hw hp hD.2 hV (fun x q1 q2 => by have := hL x q1 q2; omega)) (fun r5 σ6 hq7 => ?_)
  obtain ⟨rfl, g1, rfl, a2, b3, hg4⟩ := hq7
  refine sw_blk k_X1_greatestFrom 1 23 [(0, .inr (.inr 3)), (1, .inl d)] [.inl d, .inl g1] σ rfl ?_
  refine sw_callS k_X1_greatestFrom rfl cS_J9_min_7cf53 ml_X1_53 ⟨by decide, by decide⟩ [.inl g1, .inl d] [] rfl rfl (Nat.le_of_ble_eq_true rfl) 26 rfl (sp_min σ g1 d (by omega) (by omega)) (fun r8 σ9 hq10 => ?_)
  obtain ⟨rfl, rfl⟩ := hq10
  refine sw_blk k_X1_greatestFrom 0 26 [(0, .inr (.inr 3)), (1, .inl d)] [.inl (min g1 d)] σ rfl ?_
  refine sw_ireturn k_X1_greatestFrom rfl rfl ?_
  exact ⟨rfl, _, rfl, by omega, by omega, by omega, fun t ht => by rw [hg4 t ht]; omega⟩
theorem lp_fillIn (σ : sw_S) (hσ : sw_gs σ) (hD : 10 ≤ σ 1 0 ∧ σ 1 0 ≤ 400) (hV : 1 ≤ σ 1 1 ∧ σ 1 1 ≤ 20) (hA : 1 ≤ σ 1 2 ∧ σ 1 2 ≤ 5) (hL : ∀ x : Int, 0 ≤ x → x ≤ σ 1 0 → 1 ≤ σ 2 x.toNat ∧ σ 2 x.toNat ≤ σ 1 1) (R : sw_Rt) (d b g : Int) (hd : 1 ≤ d ∧ d ≤ 400) (hb : 0 ≤ b ∧ b ≤ σ 1 1) (hg : 0 ≤ g ∧ g ≤ d ∧ g ≤ σ 1 1) (hF : ∀ d' b' : Int, 0 ≤ d' → d' < d → 0 ≤ b' → b' ≤ σ 1 1 → sw_F R d' b' (σ 4 (d' * 21 + b').toNat)) (Q : Option sw_Vl → sw_S → Prop) (hQ : ∀ sp m : Int, sw_mi R d (max (b - σ 1 2) 1) sp m → min (b + σ 1 2) g < sp → (sp ≤ min (b + σ 1 2) g + 1 ∨ sp = max (b - σ 1 2) 1) → sw_g m → sw_E sw_ly sw_rho M_X1_fillRow 82 [(6, .inl sp), (4, .inl m), (5, .inl (min (b + σ 1 2) g)), (3, .inl b), (2, .inl g), (0, .inr (.inr 3)), (1, .inl d)] [] σ Q) : ∀ (n : Nat) (sp m : Int), 1 ≤ sp → max (b - σ 1 2) 1 ≤ sp → sw_mi R d (max (b - σ 1 2) 1) sp m → (sp ≤ min (b + σ 1 2) g + 1 ∨ sp = max (b - σ 1 2) 1) → sw_g m → (30 - sp).toNat < n → sw_E sw_ly sw_rho M_X1_fillRow 53 [(6, .inl sp), (4, .inl m), (5, .inl (min (b + σ 1 2) g)), (3, .inl b), (2, .inl g), (0, .inr (.inr 3)), (1, .inl d)] [] σ Q := by
  intro n
  induction n with
  | zero =>
    intro sp m h1 hl hi hs2 gm hn
    omega
  | succ n ih =>
    intro sp m h1 hl hi hs2 gm hn
    refine sw_blk k_X1_fillRow 2 57 [(6, .inl sp), (4, .inl m), (5, .inl (min (b + σ 1 2) g)), (3, .inl b), (2, .inl g), (0, .inr (.inr 3)), (1, .inl d)] [.inl (min (b + σ 1 2) g), .inl sp] σ rfl ?_
    refine sw_icmp_gt k_X1_fillRow rfl (by omega) (by omega) 82 60 (by decide) rfl (fun c1 => ?_) (fun c1 => ?_)
    · exact hQ sp m hi (by omega) hs2 gm
    · refine sw_blk k_X1_fillRow 4 66 [(6, .inl sp), (4, .inl m), (5, .inl (min (b + σ 1 2) g)), (3, .inl b), (2, .inl g), (0, .inr (.inr 3)), (1, .inl d)] [.inl sp, .inl d, .inr (.inr 3), .inl m] σ rfl ?_
      refine sw_callV k_X1_fillRow rfl cV_X1_ticksAfter ml_X1_75 ⟨by decide, by decide⟩ 3 rfl rfl [.inl d, .inl sp] [.inl m] rfl rfl (Nat.le_of_ble_eq_true rfl) 69 rfl (sp_ticksAfter σ d sp (by omega) (by omega)) (fun r2 σ3 hq4 => ?_)
      obtain ⟨rfl, rfl⟩ := hq4
      have hx := hF (d - sp) sp (by omega) (by omega) (by omega) (by omega)
      have gx : sw_g (σ 4 ((d - sp) * 21 + sp).toNat + 1) := by rcases hx with ⟨z, -⟩ | ⟨z1, z2, -⟩ <;> omega
      refine sw_blk k_X1_fillRow 2 71 [(6, .inl sp), (4, .inl m), (5, .inl (min (b + σ 1 2) g)), (3, .inl b), (2, .inl g), (0, .inr (.inr 3)), (1, .inl d)] [.inl ((σ 4 ((d - sp) * 21 + sp).toNat) + 1), .inl m] σ rfl ?_
      refine sw_callS k_X1_fillRow rfl cS_J9_min_7cf53 ml_X1_53 ⟨by decide, by decide⟩ [.inl m, .inl ((σ 4 ((d - sp) * 21 + sp).toNat) + 1)] [] rfl rfl (Nat.le_of_ble_eq_true rfl) 74 rfl (sp_min σ m ((σ 4 ((d - sp) * 21 + sp).toNat) + 1) gm gx) (fun r5 σ6 hq7 => ?_)
      obtain ⟨rfl, rfl⟩ := hq7
      refine sw_blk k_X1_fillRow 3 53 [(6, .inl (sp + 1)), (4, .inl (min m ((σ 4 ((d - sp) * 21 + sp).toNat) + 1))), (5, .inl (min (b + σ 1 2) g)), (3, .inl b), (2, .inl g), (0, .inr (.inr 3)), (1, .inl d)] [] σ rfl ?_
      exact ih (sp + 1) _ (by omega) (by omega) (sw_mi_s hi (by omega) h1 hl (by omega) hx) (by omega) (by omega) (by omega)
theorem lp_fillOut (σ : sw_S) (hσ : sw_gs σ) (hD : 10 ≤ σ 1 0 ∧ σ 1 0 ≤ 400) (hV : 1 ≤ σ 1 1 ∧ σ 1 1 ≤ 20) (hA : 1 ≤ σ 1 2 ∧ σ 1 2 ≤ 5) (hL : ∀ x : Int, 0 ≤ x → x ≤ σ 1 0 → 1 ≤ σ 2 x.toNat ∧ σ 2 x.toNat ≤ σ 1 1) (hw : σ 3 3 = 1 ∨ σ 3 3 = -1) (d g : Int) (hd : 1 ≤ d ∧ d ≤ 400) (hg : 0 ≤ g ∧ g ≤ d ∧ g ≤ σ 1 1) (hgg : ∀ t, 0 ≤ t → ((sw_tk (σ 2) (σ 1 0) (σ 1 1) (σ 3 2 - σ 3 3 * d) (σ 3 3 * t) ∧ t ≤ d) ↔ t ≤ g)) (Q : Option sw_Vl → sw_S → Prop) (hQ : ∀ τ : sw_S, (∀ i j, i ≠ 4 → τ i j = σ i j) → sw_gs τ → (∀ d' b' : Int, 0 ≤ d' → d' ≤ d → 0 ≤ b' → b' ≤ σ 1 1 → sw_F (sw_R (σ 2) (σ 1 0) (σ 1 1) (σ 1 2) (σ 3 2) (σ 3 3)) d' b' (τ 4 (d' * 21 + b').toNat)) → Q none τ) : ∀ (n : Nat) (b : Int) (τ : sw_S), 0 ≤ b → b ≤ σ 1 1 + 1 → (∀ i j, i ≠ 4 → τ i j = σ i j) → sw_gs τ → (∀ d' b' : Int, 0 ≤ d' → 0 ≤ b' → b' ≤ σ 1 1 → (d' < d ∨ d' = d ∧ b' < b) → sw_F (sw_R (σ 2) (σ 1 0) (σ 1 1) (σ 1 2) (σ 3 2) (σ 3 3)) d' b' (τ 4 (d' * 21 + b').toNat)) → (30 - b).toNat < n → sw_E sw_ly sw_rho M_X1_fillRow 8 [(3, .inl b), (2, .inl g), (0, .inr (.inr 3)), (1, .inl d)] [] τ Q := by
  intro n
  induction n with
  | zero =>
    intro b τ hb0 hb1 hrow hτ hF hn
    omega
  | succ n ih =>
    intro b τ hb0 hb1 hrow hτ hF hn
    have e10 : τ 1 0 = σ 1 0 := hrow 1 0 (by decide)
    have e11 : τ 1 1 = σ 1 1 := hrow 1 1 (by decide)
    have e12 : τ 1 2 = σ 1 2 := hrow 1 2 (by decide)
    have e2 : τ 2 = σ 2 := funext fun j => hrow 2 j (by decide)
    refine sw_blk k_X1_fillRow 4 16 [(3, .inl b), (2, .inl g), (0, .inr (.inr 3)), (1, .inl d)] [.inl (τ 1 1), .inl b] τ rfl ?_
    refine sw_icmp_gt k_X1_fillRow rfl (by omega) (by omega) 101 19 (by decide) rfl (fun c1 => ?_) (fun c1 => ?_)
    · refine sw_vreturn k_X1_fillRow rfl rfl ?_
      exact hQ τ hrow hτ (fun d' b' q1 q2 q3 q4 => hF d' b' q1 q3 q4 (by omega))
    · refine sw_blk k_X1_fillRow 8 33 [(4, .inl 1000000), (3, .inl b), (2, .inl g), (0, .inr (.inr 3)), (1, .inl d)] [.inl g, .inl (b + (τ 1 2))] τ rfl ?_
      refine sw_callS k_X1_fillRow rfl cS_J9_min_7cf53 ml_X1_53 ⟨by decide, by decide⟩ [.inl (b + (τ 1 2)), .inl g] [] rfl rfl (Nat.le_of_ble_eq_true rfl) 36 rfl (sp_min τ (b + (τ 1 2)) g (by omega) (by omega)) (fun r2 σ3 hq4 => ?_)
      obtain ⟨rfl, rfl⟩ := hq4
      refine sw_blk k_X1_fillRow 7 48 [(5, .inl (min (b + (τ 1 2)) g)), (4, .inl 1000000), (3, .inl b), (2, .inl g), (0, .inr (.inr 3)), (1, .inl d)] [.inl 1, .inl (b - (τ 1 2))] τ rfl ?_
      refine sw_callS k_X1_fillRow rfl cS_J9_max_7cf53 ml_X1_72 ⟨by decide, by decide⟩ [.inl (b - (τ 1 2)), .inl 1] [] rfl rfl (Nat.le_of_ble_eq_true rfl) 51 rfl (sp_max τ (b - (τ 1 2)) 1 (by omega) (by omega)) (fun r5 σ6 hq7 => ?_)
      obtain ⟨rfl, rfl⟩ := hq7
      refine sw_blk k_X1_fillRow 1 53 [(6, .inl (max (b - (τ 1 2)) 1)), (5, .inl (min (b + (τ 1 2)) g)), (4, .inl 1000000), (3, .inl b), (2, .inl g), (0, .inr (.inr 3)), (1, .inl d)] [] τ rfl ?_
      refine sw_Lsub [(6, .inl (max (b - (τ 1 2)) 1)), (4, .inl 1000000), (5, .inl (min (b + (τ 1 2)) g)), (3, .inl b), (2, .inl g), (0, .inr (.inr 3)), (1, .inl d)] [0, 2, 1, 3, 4, 5, 6] rfl ?_
      refine lp_fillIn τ hτ (by rw [e10]; exact hD) (by rw [e11]; exact hV) (by rw [e12]; exact hA) (by rw [e10, e11, e2]; exact hL) (sw_R (σ 2) (σ 1 0) (σ 1 1) (σ 1 2) (σ 3 2) (σ 3 3)) d b g hd (by omega) (by omega) (fun d' b' q1 q2 q3 q4 => hF d' b' q1 q3 (by omega) (Or.inl q2)) Q (fun sp m hi hs hs2 gm => ?_) 30 _ _ (by omega) (by omega) (sw_mi_0 _ _ _) (Or.inr rfl) (by decide) (by omega)
      rw [e12] at hi hs hs2
      have hfin := sw_mi_F hi hd.1 hgg hs hs2
      refine sw_blk k_X1_fillRow 8 94 [(6, .inl sp), (4, .inl m), (5, .inl (min (b + τ 1 2) g)), (3, .inl b), (2, .inl g), (0, .inr (.inr 3)), (1, .inl d)] [.inl m, .inl (d * 21 + b), .inr (.inr 4)] τ rfl ?_
      refine sw_iast k_X1_fillRow rfl (i := 4) (n := 8421) rfl (by decide) (by omega) (by omega) 95 rfl ?_
      refine sw_blk k_X1_fillRow 2 8 [(3, .inl (b + 1)), (6, .inl sp), (4, .inl m), (5, .inl (min (b + τ 1 2) g)), (2, .inl g), (0, .inr (.inr 3)), (1, .inl d)] [] (sw_u τ 4 (d * 21 + b).toNat m) rfl ?_
      refine sw_Lsub [(3, .inl (b + 1)), (2, .inl g), (0, .inr (.inr 3)), (1, .inl d)] [0, 4, 5, 6] rfl ?_
      refine ih (b + 1) _ (by omega) (by omega) (fun i j hi2 => ?_) (sw_gs_u hτ _ _ gm) (fun d' b' q1 q2 q3 q4 => ?_) (by omega)
      · rw [sw_u_row _ _ hi2]; exact hrow i j hi2
      · by_cases z : d' = d ∧ b' = b
        · obtain ⟨z1, z2⟩ := z; subst z1; subst z2; rw [sw_u_same]; exact hfin
        · rw [sw_u_ne _ _ (fun y => z (by omega))]; exact hF d' b' q1 q2 q3 (by omega)
theorem sp_fillRow (σ : sw_S) (hσ : sw_gs σ) (hD : 10 ≤ σ 1 0 ∧ σ 1 0 ≤ 400) (hV : 1 ≤ σ 1 1 ∧ σ 1 1 ≤ 20) (hA : 1 ≤ σ 1 2 ∧ σ 1 2 ≤ 5) (hL : ∀ x : Int, 0 ≤ x → x ≤ σ 1 0 → 1 ≤ σ 2 x.toNat ∧ σ 2 x.toNat ≤ σ 1 1) (hw : σ 3 3 = 1 ∨ σ 3 3 = -1) (d : Int) (hd : 1 ≤ d ∧ d ≤ 400) (hp : 0 ≤ σ 3 2 - σ 3 3 * d ∧ σ 3 2 - σ 3 3 * d ≤ σ 1 0) (hF : ∀ d' b' : Int, 0 ≤ d' → d' < d → 0 ≤ b' → b' ≤ σ 1 1 → sw_F (sw_R (σ 2) (σ 1 0) (σ 1 1) (σ 1 2) (σ 3 2) (σ 3 3)) d' b' (σ 4 (d' * 21 + b').toNat)) : sw_Con sw_ly sw_rho M_X1_fillRow [.inr (.inr 3), .inl d] σ (fun r σ' => r = none ∧ (∀ i j, i ≠ 4 → σ' i j = σ i j) ∧ sw_gs σ' ∧ ∀ d' b' : Int, 0 ≤ d' → d' ≤ d → 0 ≤ b' → b' ≤ σ 1 1 → sw_F (sw_R (σ 2) (σ 1 0) (σ 1 1) (σ 1 2) (σ 3 2) (σ 3 3)) d' b' (σ' 4 (d' * 21 + b').toNat)) := by
  refine sw_con (by decide) (Nat.le_of_ble_eq_true rfl) ?_
  refine sw_blk k_X1_fillRow 2 2 [(0, .inr (.inr 3)), (1, .inl d)] [.inl d, .inr (.inr 3)] σ rfl ?_
  refine sw_callV k_X1_fillRow rfl cV_X1_greatestFrom ml_X1_69 ⟨by decide, by decide⟩ 3 rfl rfl [.inl d] [] rfl rfl (Nat.le_of_ble_eq_true rfl) 5 rfl (sp_gfrom σ hσ hD hV hA hL hw d (by omega) hp) (fun r6 σ7 hq8 => ?_)
  obtain ⟨rfl, g1, rfl, a2, b3, cc4, hg5⟩ := hq8
  refine sw_blk k_X1_fillRow 3 8 [(3, .inl 0), (2, .inl g1), (0, .inr (.inr 3)), (1, .inl d)] [] σ rfl ?_
  exact lp_fillOut σ hσ hD hV hA hL hw d g1 hd (by omega) hg5 _ (fun τ h1 h2 h3 => ⟨rfl, h1, h2, h3⟩) 31 0 σ (by omega) (by omega) (fun _ _ _ => rfl) hσ (fun d' b' q1 q2 q3 q4 => hF d' b' q1 (by omega) q2 q3) (by omega)
