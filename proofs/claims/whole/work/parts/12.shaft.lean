/-- all places between two allow a speed -/
def sw_rn (lim : Nat → Int) (p q t : Int) : Prop := ∀ x : Int, (p ≤ x ∧ x ≤ q ∨ q ≤ x ∧ x ≤ p) → t ≤ lim x.toNat
/-- a tick by v from p is within the laws -/
def sw_tk (lim : Nat → Int) (D V p v : Int) : Prop := sw_abs v ≤ V ∧ 0 ≤ p + v ∧ p + v ≤ D ∧ sw_rn lim p (p + v) (sw_abs v)
theorem sw_rn_step {lim : Nat → Int} {p s w t : Int} (hw : w = 1 ∨ w = -1) (hs : 1 ≤ s) : (t ≤ lim (p + w * s).toNat ∧ sw_rn lim p (p + w * (s - 1)) t) ↔ sw_rn lim p (p + w * s) t := by
  constructor
  · rintro ⟨h1, h2⟩ x hx
    by_cases e : x = p + w * s
    · rw [e]; exact h1
    · refine h2 x ?_
      rcases hw with rfl | rfl <;> omega
  · intro h
    refine ⟨h _ ?_, fun x hx => h x ?_⟩
    · rcases hw with rfl | rfl <;> omega
    · rcases hw with rfl | rfl <;> omega
theorem sw_gsp {lim : Nat → Int} {D V p s w : Int} (hw : w = 1 ∨ w = -1) (hp : 0 ≤ p ∧ p ≤ D) (hs : 1 ≤ s) (hsV : s ≤ V + 1) (h1 : 0 ≤ p + w * (s - 1) ∧ p + w * (s - 1) ≤ D) (h2 : sw_rn lim p (p + w * (s - 1)) (s - 1)) (h3 : s = V + 1 ∨ ¬ (0 ≤ p + w * s ∧ p + w * s ≤ D) ∨ ¬ sw_rn lim p (p + w * s) s) : ∀ t, 0 ≤ t → (sw_tk lim D V p (w * t) ↔ t ≤ s - 1) := by
  intro t ht
  have ha : sw_abs (w * t) = t := by unfold sw_abs; rcases hw with rfl | rfl <;> split <;> omega
  unfold sw_tk
  rw [ha]
  constructor
  · rintro ⟨a1, a2, a3, a4⟩
    rcases Int.lt_or_le (s - 1) t with q | q
    · exfalso
      rcases h3 with h3 | h3 | h3
      · omega
      · rcases hw with rfl | rfl <;> omega
      · refine h3 (fun x hx => ?_)
        have := a4 x (by rcases hw with rfl | rfl <;> omega)
        omega
    · exact q
  · intro q
    refine ⟨by omega, by rcases hw with rfl | rfl <;> omega, by rcases hw with rfl | rfl <;> omega, fun x hx => ?_⟩
    have := h2 x (by rcases hw with rfl | rfl <;> omega)
    omega
def sw_fl (σ : sw_S) (a n : Nat) (v : Int) : sw_S := fun i j => if i = a ∧ j < n then v else σ i j
theorem sw_fl_0 (σ : sw_S) (a : Nat) (v : Int) : sw_fl σ a 0 v = σ := by funext i j; simp [sw_fl]
theorem sw_fl_s (σ : sw_S) (a n : Nat) (v : Int) : sw_u (sw_fl σ a n v) a n v = sw_fl σ a (n + 1) v := by
  funext i j
  unfold sw_u sw_fl
  by_cases hi : i = a
  · subst hi
    by_cases hj : j = n
    · subst hj; simp
    · simp only [true_and]
      rw [if_neg hj]
      by_cases h : j < n
      · rw [if_pos h, if_pos (by omega)]
      · rw [if_neg h, if_neg (by omega)]
  · simp [hi]
theorem sw_fl_row (σ : sw_S) {a n i j : Nat} (v : Int) (h : i ≠ a) : sw_fl σ a n v i j = σ i j := by simp [sw_fl, h]
theorem sw_fl_in (σ : sw_S) {a n j : Nat} (v : Int) (h : j < n) : sw_fl σ a n v a j = v := by simp [sw_fl, h]
theorem sw_alenr {ly : sw_Ly} {ρ : sw_Rf} {M : sw_M} {I : List (Option sw_I)} {pc : Nat} {L : sw_L} {st : List sw_Vl} {σ : sw_S} {Q : Option sw_Vl → sw_S → Prop} (hI : sw_Ok M I) {a b : Nat} {z : Int} (h : I[pc]? = some (some (.arraylength, a, b, z))) {i n : Nat} (hk : ly[i]? = some (100, n)) (nx : Nat) (hn : pc + 1 = nx) (k : sw_E ly ρ M nx L (.inl (n : Int) :: st) σ Q) : sw_E ly ρ M pc L (.inr (.inr i) :: st) σ Q := by
  subst hn
  exact sw_step (g := (pc + 1, L, .inl (n : Int) :: st, σ)) hI h (by simp [sw_st, sw_pR, hk]) k
theorem lp_fill {ly : sw_Ly} {ρ : sw_Rf} (σ : sw_S) (a N : Nat) (v : Int) (hk : ly[a]? = some (100, N)) (hN : N ≤ 100000) (Q : Option sw_Vl → sw_S → Prop) (hQ : Q none (sw_fl σ a N v)) : ∀ (n j : Nat), j ≤ N → N - j < n → sw_E ly ρ M_J7_fill_53178 5 [(3, .inl (N : Int)), (2, .inl (j : Int)), (0, .inr (.inr a)), (1, .inl v)] [] (sw_fl σ a j v) Q := by
  intro n
  induction n with
  | zero => intro j h1 h2; omega
  | succ n ih =>
    intro j h1 h2
    refine sw_blk k_J7_fill_53178 2 7 [(3, .inl (N : Int)), (2, .inl (j : Int)), (0, .inr (.inr a)), (1, .inl v)] [.inl (N : Int), .inl (j : Int)] (sw_fl σ a j v) rfl ?_
    refine sw_icmp_ge k_J7_fill_53178 rfl (by omega) (by omega) 20 10 (by decide) rfl (fun c1 => ?_) (fun c1 => ?_)
    · have e : j = N := by omega
      subst e
      exact sw_vreturn k_J7_fill_53178 rfl rfl hQ
    · refine sw_blk k_J7_fill_53178 3 13 [(3, .inl (N : Int)), (2, .inl (j : Int)), (0, .inr (.inr a)), (1, .inl v)] [.inl v, .inl (j : Int), .inr (.inr a)] (sw_fl σ a j v) rfl ?_
      refine sw_iast k_J7_fill_53178 rfl hk (by omega) (by omega) (by omega) 14 rfl ?_
      refine sw_blk k_J7_fill_53178 2 5 [(2, .inl ((j : Int) + 1)), (3, .inl (N : Int)), (0, .inr (.inr a)), (1, .inl v)] [] (sw_u (sw_fl σ a j v) a j v) rfl ?_
      refine sw_Lsub [(3, .inl (N : Int)), (2, .inl ((j : Int) + 1)), (0, .inr (.inr a)), (1, .inl v)] [1, 0, 2, 3] rfl ?_
      rw [sw_fl_s]
      exact ih (j + 1) (by omega) (by omega)
theorem sp_fill {ly : sw_Ly} {ρ : sw_Rf} (σ : sw_S) (a N : Nat) (v : Int) (hk : ly[a]? = some (100, N)) (hN : N ≤ 100000) : sw_Con ly ρ M_J7_fill_53178 [.inr (.inr a), .inl v] σ (fun r σ' => sw_fl σ a N v = σ' ∧ r = none) := by
  refine sw_con (by decide) (Nat.le_of_ble_eq_true rfl) ?_
  refine sw_blk k_J7_fill_53178 3 3 [(2, .inl 0), (0, .inr (.inr a)), (1, .inl v)] [.inr (.inr a)] σ rfl ?_
  refine sw_alenr k_J7_fill_53178 rfl hk 4 rfl ?_
  refine sw_blk k_J7_fill_53178 1 5 [(3, .inl (N : Int)), (2, .inl 0), (0, .inr (.inr a)), (1, .inl v)] [] σ rfl ?_
  have h := lp_fill (ρ := ρ) σ a N v hk hN (fun r σ' => sw_fl σ a N v = σ' ∧ r = none) ⟨rfl, rfl⟩ (N + 1) 0 (by omega) (by omega)
  rw [sw_fl_0] at h
  exact h
theorem sp_renew (σ : sw_S) (d v a : Int) : sw_Con sw_ly sw_rho M_X3_renew [.inr (.inr 1), .inl d, .inl v, .inl a] σ (fun r σ' => (sw_fl (sw_u (sw_u (sw_u (sw_u σ 1 0 d) 1 1 v) 1 2 a) 1 3 0) 2 401 v) = σ' ∧ r = none) := by
  refine sw_con (by decide) (Nat.le_of_ble_eq_true rfl) ?_
  refine sw_blk k_X3_renew 15 25 [(0, .inr (.inr 1)), (1, .inl d), (2, .inl v), (3, .inl a)] [.inl v, .inr (.inr 2)] (sw_u (sw_u (sw_u (sw_u σ 1 0 d) 1 1 v) 1 2 a) 1 3 0) rfl ?_
  refine sw_callS k_X3_renew rfl cS_J7_fill_53178 ml_X3_32 ⟨by decide, by decide⟩ [.inr (.inr 2), .inl v] [] rfl rfl (Nat.le_of_ble_eq_true rfl) 28 rfl (sp_fill (sw_u (sw_u (sw_u (sw_u σ 1 0 d) 1 1 v) 1 2 a) 1 3 0) 2 401 v rfl (by decide)) (fun r1 σ2 hq3 => ?_)
  obtain ⟨rfl, rfl⟩ := hq3
  refine sw_blk k_X3_renew 0 28 [(0, .inr (.inr 1)), (1, .inl d), (2, .inl v), (3, .inl a)] [] (sw_fl (sw_u (sw_u (sw_u (sw_u σ 1 0 d) 1 1 v) 1 2 a) 1 3 0) 2 401 v) rfl ?_
  refine sw_vreturn k_X3_renew rfl rfl ?_
  exact ⟨rfl, rfl⟩
theorem sp_limitAt (σ : sw_S) (x : Int) (gx : sw_g x) (hd : 0 ≤ σ 1 0 ∧ σ 1 0 ≤ 400) : sw_Con sw_ly sw_rho M_X3_limitAt [.inr (.inr 1), .inl x] σ (fun r σ' => σ = σ' ∧ r = some (.inl (if 0 ≤ x ∧ x ≤ σ 1 0 then σ 2 x.toNat else σ 1 1))) := by
  refine sw_con (by decide) (Nat.le_of_ble_eq_true rfl) ?_
  refine sw_blk k_X3_limitAt 2 2 [(0, .inr (.inr 1)), (1, .inl x)] [.inl x, .inr (.inr 1)] σ rfl ?_
  refine sw_callV k_X3_limitAt rfl cV_X3_has ml_X3_47 ⟨by decide, by decide⟩ 1 rfl rfl [.inl x] [] rfl rfl (Nat.le_of_ble_eq_true rfl) 5 rfl (sp_has σ x (by omega) (by omega)) (fun r2 σ3 hq4 => ?_)
  obtain ⟨rfl, ⟨p1, rfl⟩ | ⟨p1, rfl⟩⟩ := hq4
  · refine sw_blk k_X3_limitAt 0 5 [(0, .inr (.inr 1)), (1, .inl x)] [.inl 1] σ rfl ?_
    refine sw_if_eq k_X3_limitAt rfl (by decide) 17 8 (by decide) rfl (fun c => absurd c (by decide)) (fun _ => ?_)
    refine sw_blk k_X3_limitAt 3 13 [(0, .inr (.inr 1)), (1, .inl x)] [.inl x, .inr (.inr 2)] σ rfl ?_
    refine sw_iald k_X3_limitAt rfl (i := 2) (n := 401) rfl (by decide) (by omega) (by omega) 14 rfl ?_
    refine sw_blk k_X3_limitAt 1 21 [(0, .inr (.inr 1)), (1, .inl x)] [.inl (σ 2 x.toNat)] σ rfl ?_
    refine sw_ireturn k_X3_limitAt rfl rfl ?_
    exact ⟨rfl, congrArg (fun q : Int => some (Sum.inl q)) (show ((σ 2 x.toNat) : Int) = (if 0 ≤ x ∧ x ≤ σ 1 0 then σ 2 x.toNat else σ 1 1) from by simp only [*]; try rfl)⟩
  · refine sw_blk k_X3_limitAt 0 5 [(0, .inr (.inr 1)), (1, .inl x)] [.inl 0] σ rfl ?_
    refine sw_if_eq k_X3_limitAt rfl (by decide) 17 8 (by decide) rfl (fun _ => ?_) (fun c => absurd (by decide) c)
    refine sw_blk k_X3_limitAt 2 21 [(0, .inr (.inr 1)), (1, .inl x)] [.inl (σ 1 1)] σ rfl ?_
    refine sw_ireturn k_X3_limitAt rfl rfl ?_
    exact ⟨rfl, congrArg (fun q : Int => some (Sum.inl q)) (show ((σ 1 1) : Int) = (if 0 ≤ x ∧ x ≤ σ 1 0 then σ 2 x.toNat else σ 1 1) from by simp only [*]; try rfl)⟩
theorem lp_gspd (σ : sw_S) (hσ : sw_gs σ) (p : Int) (hp : 0 ≤ p ∧ p ≤ σ 1 0) (hD : σ 1 0 ≤ 400) (hV : 1 ≤ σ 1 1 ∧ σ 1 1 ≤ 20) (Q : Option sw_Vl → sw_S → Prop) (hQ : ∀ g : Int, 0 ≤ g → g ≤ σ 1 1 → (∀ t, 0 ≤ t → (sw_tk (σ 2) (σ 1 0) (σ 1 1) p (1 * t) ↔ t ≤ g)) → Q (some (.inl g)) σ) : ∀ (n : Nat) (s lm : Int), 1 ≤ s → s ≤ σ 1 1 + 1 → 0 ≤ p + 1 * (s - 1) ∧ p + 1 * (s - 1) ≤ σ 1 0 → sw_rn (σ 2) p (p + 1 * (s - 1)) (s - 1) → (∀ t, t ≤ lm ↔ sw_rn (σ 2) p (p + 1 * (s - 1)) t) → sw_g lm → (22 - s).toNat < n → sw_E sw_ly sw_rho M_X3_greatestSpeed 20 [(4, .inl s), (3, .inl lm), (0, .inr (.inr 1)), (1, .inl p), (2, .inl 1)] [] σ Q := by
  intro n
  induction n with
  | zero =>
    intro s lm hs hsV h1 h2 hm gm hn
    omega
  | succ n ih =>
    intro s lm hs hsV h1 h2 hm gm hn
    refine sw_blk k_X3_greatestSpeed 3 26 [(4, .inl s), (3, .inl lm), (0, .inr (.inr 1)), (1, .inl p), (2, .inl 1)] [.inl (σ 1 1), .inl s] σ rfl ?_
    refine sw_icmp_gt k_X3_greatestSpeed rfl (by omega) (hσ 1 _) 80 29 (by decide) rfl (fun c1 => ?_) (fun c1 => ?_)
    · refine sw_blk k_X3_greatestSpeed 2 84 [(4, .inl s), (3, .inl lm), (0, .inr (.inr 1)), (1, .inl p), (2, .inl 1)] [.inl (σ 1 1)] σ rfl ?_
      refine sw_ireturn k_X3_greatestSpeed rfl rfl ?_
      have es : s = σ 1 1 + 1 := by omega
      refine hQ _ (by omega) (by omega) (fun t ht => ?_)
      have := sw_gsp (Or.inl rfl) hp hs hsV h1 h2 (Or.inl es) t ht
      rw [this]; omega
    · refine sw_blk k_X3_greatestSpeed 8 40 [(5, .inl (p + (1 * s))), (4, .inl s), (3, .inl lm), (0, .inr (.inr 1)), (1, .inl p), (2, .inl 1)] [.inl (p + (1 * s)), .inr (.inr 1)] σ rfl ?_
      refine sw_callV k_X3_greatestSpeed rfl cV_X3_has ml_X3_47 ⟨by decide, by decide⟩ 1 rfl rfl [.inl (p + (1 * s))] [] rfl rfl (Nat.le_of_ble_eq_true rfl) 43 rfl (sp_has σ (p + (1 * s)) (by omega) (hσ 1 _)) (fun r3 σ4 hq5 => ?_)
      obtain ⟨rfl, ⟨p2, rfl⟩ | ⟨p2, rfl⟩⟩ := hq5
      · refine sw_blk k_X3_greatestSpeed 0 43 [(5, .inl (p + (1 * s))), (4, .inl s), (3, .inl lm), (0, .inr (.inr 1)), (1, .inl p), (2, .inl 1)] [.inl 1] σ rfl ?_
        refine sw_if_ne k_X3_greatestSpeed rfl (by decide) 51 46 (by decide) rfl (fun _ => ?_) (fun c => absurd c (by decide))
        refine sw_blk k_X3_greatestSpeed 4 58 [(5, .inl (p + (1 * s))), (4, .inl s), (3, .inl lm), (0, .inr (.inr 1)), (1, .inl p), (2, .inl 1)] [.inl (p + (1 * s)), .inr (.inr 2), .inl lm] σ rfl ?_
        refine sw_iald k_X3_greatestSpeed rfl (i := 2) (n := 401) rfl (by decide) (by omega) (by omega) 59 rfl ?_
        refine sw_blk k_X3_greatestSpeed 0 59 [(5, .inl (p + (1 * s))), (4, .inl s), (3, .inl lm), (0, .inr (.inr 1)), (1, .inl p), (2, .inl 1)] [.inl (σ 2 ((p + (1 * s)).toNat)), .inl lm] σ rfl ?_
        refine sw_callS k_X3_greatestSpeed rfl cS_J9_min_7cf53 ml_X3_44 ⟨by decide, by decide⟩ [.inl lm, .inl (σ 2 ((p + (1 * s)).toNat))] [] rfl rfl (Nat.le_of_ble_eq_true rfl) 62 rfl (sp_min σ lm (σ 2 (p + (1 * s)).toNat) (by omega) (hσ 2 _)) (fun r6 σ7 hq8 => ?_)
        obtain ⟨rfl, rfl⟩ := hq8
        have gl := hσ 2 (p + (1 * s)).toNat
        have hm2 : ∀ t, t ≤ min lm (σ 2 (p + (1 * s)).toNat) ↔ sw_rn (σ 2) p (p + 1 * s) t := fun t => by rw [← sw_rn_step (Or.inl rfl) hs, ← hm t]; omega
        refine sw_blk k_X3_greatestSpeed 3 66 [(3, .inl (min lm (σ 2 (p + (1 * s)).toNat))), (5, .inl (p + (1 * s))), (4, .inl s), (0, .inr (.inr 1)), (1, .inl p), (2, .inl 1)] [.inl (min lm (σ 2 (p + (1 * s)).toNat)), .inl s] σ rfl ?_
        refine sw_icmp_le k_X3_greatestSpeed rfl (by omega) (by omega) 74 69 (by decide) rfl (fun c9 => ?_) (fun c9 => ?_)
        · refine sw_blk k_X3_greatestSpeed 2 20 [(4, .inl (s + 1)), (3, .inl (min lm (σ 2 (p + (1 * s)).toNat))), (5, .inl (p + (1 * s))), (0, .inr (.inr 1)), (1, .inl p), (2, .inl 1)] [] σ rfl ?_
          refine sw_Lsub [(4, .inl (s + 1)), (3, .inl (min lm (σ 2 (p + (1 * s)).toNat))), (0, .inr (.inr 1)), (1, .inl p), (2, .inl 1)] [0, 1, 3, 4, 5] rfl ?_
          exact ih (s + 1) _ (by omega) (by omega) (by rw [show s + 1 - 1 = s by omega]; omega) (by rw [show s + 1 - 1 = s by omega]; exact (hm2 s).mp (by omega)) (by rw [show s + 1 - 1 = s by omega]; exact hm2) (by omega) (by omega)
        · refine sw_blk k_X3_greatestSpeed 3 73 [(3, .inl (min lm (σ 2 (p + (1 * s)).toNat))), (5, .inl (p + (1 * s))), (4, .inl s), (0, .inr (.inr 1)), (1, .inl p), (2, .inl 1)] [.inl (s - 1)] σ rfl ?_
          refine sw_ireturn k_X3_greatestSpeed rfl rfl ?_
          exact hQ _ (by omega) (by omega) (sw_gsp (Or.inl rfl) hp hs hsV h1 h2 (Or.inr (Or.inr (fun q => absurd ((hm2 s).mpr q) (by omega)))))
      · refine sw_blk k_X3_greatestSpeed 0 43 [(5, .inl (p + (1 * s))), (4, .inl s), (3, .inl lm), (0, .inr (.inr 1)), (1, .inl p), (2, .inl 1)] [.inl 0] σ rfl ?_
        refine sw_if_ne k_X3_greatestSpeed rfl (by decide) 51 46 (by decide) rfl (fun c => absurd (by decide) c) (fun _ => ?_)
        refine sw_blk k_X3_greatestSpeed 3 50 [(5, .inl (p + (1 * s))), (4, .inl s), (3, .inl lm), (0, .inr (.inr 1)), (1, .inl p), (2, .inl 1)] [.inl (s - 1)] σ rfl ?_
        refine sw_ireturn k_X3_greatestSpeed rfl rfl ?_
        exact hQ _ (by omega) (by omega) (sw_gsp (Or.inl rfl) hp hs hsV h1 h2 (Or.inr (Or.inl (by omega))))
theorem sp_gspd (σ : sw_S) (hσ : sw_gs σ) (p : Int) (hp : 0 ≤ p ∧ p ≤ σ 1 0) (hD : σ 1 0 ≤ 400) (hV : 1 ≤ σ 1 1 ∧ σ 1 1 ≤ 20) (h0 : ∀ x : Int, 0 ≤ x → x ≤ σ 1 0 → 0 ≤ σ 2 x.toNat) : sw_Con sw_ly sw_rho M_X3_greatestSpeed [.inr (.inr 1), .inl p, .inl 1] σ (fun r σ' => σ = σ' ∧ ∃ g : Int, r = some (.inl g) ∧ 0 ≤ g ∧ g ≤ σ 1 1 ∧ ∀ t, 0 ≤ t → (sw_tk (σ 2) (σ 1 0) (σ 1 1) p (1 * t) ↔ t ≤ g)) := by
  refine sw_con (by decide) (Nat.le_of_ble_eq_true rfl) ?_
  refine sw_blk k_X3_greatestSpeed 2 2 [(0, .inr (.inr 1)), (1, .inl p), (2, .inl 1)] [.inl p, .inr (.inr 1)] σ rfl ?_
  refine sw_callV k_X3_greatestSpeed rfl cV_X3_has ml_X3_47 ⟨by decide, by decide⟩ 1 rfl rfl [.inl p] [] rfl rfl (Nat.le_of_ble_eq_true rfl) 5 rfl (sp_has σ p (by omega) (hσ 1 0)) (fun r1 σ1 hq => ?_)
  obtain ⟨rfl, ⟨p1, rfl⟩ | ⟨p1, rfl⟩⟩ := hq
  · refine sw_blk k_X3_greatestSpeed 0 5 [(0, .inr (.inr 1)), (1, .inl p), (2, .inl 1)] [.inl 1] σ rfl ?_
    refine sw_if_ne k_X3_greatestSpeed rfl (by decide) 10 8 (by decide) rfl (fun _ => ?_) (fun c => absurd c (by decide))
    refine sw_blk k_X3_greatestSpeed 3 15 [(0, .inr (.inr 1)), (1, .inl p), (2, .inl 1)] [.inl p, .inr (.inr 2)] σ rfl ?_
    refine sw_iald k_X3_greatestSpeed rfl (i := 2) (n := 401) rfl (by decide) (by omega) (by omega) 16 rfl ?_
    refine sw_blk k_X3_greatestSpeed 3 20 [(4, .inl 1), (3, .inl (σ 2 p.toNat)), (0, .inr (.inr 1)), (1, .inl p), (2, .inl 1)] [] σ rfl ?_
    have e0 : p + 1 * ((1 : Int) - 1) = p := by omega
    refine lp_gspd σ hσ p hp hD hV _ (fun g g1 g2 g3 => ⟨rfl, g, rfl, g1, g2, g3⟩) 22 1 _ (by omega) (by omega) (by omega) ?_ ?_ (hσ 2 _) (by omega)
    · rw [e0]
      intro x hx
      have : x = p := by omega
      subst this
      have := h0 x hp.1 hp.2
      omega
    · rw [e0]
      intro t
      constructor
      · intro q x hx
        have : x = p := by omega
        subst this
        exact q
      · intro q
        exact q p (by omega)
  · exact absurd hp p1
theorem lp_gspu (σ : sw_S) (hσ : sw_gs σ) (p : Int) (hp : 0 ≤ p ∧ p ≤ σ 1 0) (hD : σ 1 0 ≤ 400) (hV : 1 ≤ σ 1 1 ∧ σ 1 1 ≤ 20) (Q : Option sw_Vl → sw_S → Prop) (hQ : ∀ g : Int, 0 ≤ g → g ≤ σ 1 1 → (∀ t, 0 ≤ t → (sw_tk (σ 2) (σ 1 0) (σ 1 1) p ((-1) * t) ↔ t ≤ g)) → Q (some (.inl g)) σ) : ∀ (n : Nat) (s lm : Int), 1 ≤ s → s ≤ σ 1 1 + 1 → 0 ≤ p + (-1) * (s - 1) ∧ p + (-1) * (s - 1) ≤ σ 1 0 → sw_rn (σ 2) p (p + (-1) * (s - 1)) (s - 1) → (∀ t, t ≤ lm ↔ sw_rn (σ 2) p (p + (-1) * (s - 1)) t) → sw_g lm → (22 - s).toNat < n → sw_E sw_ly sw_rho M_X3_greatestSpeed 20 [(4, .inl s), (3, .inl lm), (0, .inr (.inr 1)), (1, .inl p), (2, .inl (-1))] [] σ Q := by
  intro n
  induction n with
  | zero =>
    intro s lm hs hsV h1 h2 hm gm hn
    omega
  | succ n ih =>
    intro s lm hs hsV h1 h2 hm gm hn
    refine sw_blk k_X3_greatestSpeed 3 26 [(4, .inl s), (3, .inl lm), (0, .inr (.inr 1)), (1, .inl p), (2, .inl (-1))] [.inl (σ 1 1), .inl s] σ rfl ?_
    refine sw_icmp_gt k_X3_greatestSpeed rfl (by omega) (hσ 1 _) 80 29 (by decide) rfl (fun c1 => ?_) (fun c1 => ?_)
    · refine sw_blk k_X3_greatestSpeed 2 84 [(4, .inl s), (3, .inl lm), (0, .inr (.inr 1)), (1, .inl p), (2, .inl (-1))] [.inl (σ 1 1)] σ rfl ?_
      refine sw_ireturn k_X3_greatestSpeed rfl rfl ?_
      have es : s = σ 1 1 + 1 := by omega
      refine hQ _ (by omega) (by omega) (fun t ht => ?_)
      have := sw_gsp (Or.inr rfl) hp hs hsV h1 h2 (Or.inl es) t ht
      rw [this]; omega
    · refine sw_blk k_X3_greatestSpeed 8 40 [(5, .inl (p + ((-1) * s))), (4, .inl s), (3, .inl lm), (0, .inr (.inr 1)), (1, .inl p), (2, .inl (-1))] [.inl (p + ((-1) * s)), .inr (.inr 1)] σ rfl ?_
      refine sw_callV k_X3_greatestSpeed rfl cV_X3_has ml_X3_47 ⟨by decide, by decide⟩ 1 rfl rfl [.inl (p + ((-1) * s))] [] rfl rfl (Nat.le_of_ble_eq_true rfl) 43 rfl (sp_has σ (p + ((-1) * s)) (by omega) (hσ 1 _)) (fun r3 σ4 hq5 => ?_)
      obtain ⟨rfl, ⟨p2, rfl⟩ | ⟨p2, rfl⟩⟩ := hq5
      · refine sw_blk k_X3_greatestSpeed 0 43 [(5, .inl (p + ((-1) * s))), (4, .inl s), (3, .inl lm), (0, .inr (.inr 1)), (1, .inl p), (2, .inl (-1))] [.inl 1] σ rfl ?_
        refine sw_if_ne k_X3_greatestSpeed rfl (by decide) 51 46 (by decide) rfl (fun _ => ?_) (fun c => absurd c (by decide))
        refine sw_blk k_X3_greatestSpeed 4 58 [(5, .inl (p + ((-1) * s))), (4, .inl s), (3, .inl lm), (0, .inr (.inr 1)), (1, .inl p), (2, .inl (-1))] [.inl (p + ((-1) * s)), .inr (.inr 2), .inl lm] σ rfl ?_
        refine sw_iald k_X3_greatestSpeed rfl (i := 2) (n := 401) rfl (by decide) (by omega) (by omega) 59 rfl ?_
        refine sw_blk k_X3_greatestSpeed 0 59 [(5, .inl (p + ((-1) * s))), (4, .inl s), (3, .inl lm), (0, .inr (.inr 1)), (1, .inl p), (2, .inl (-1))] [.inl (σ 2 ((p + ((-1) * s)).toNat)), .inl lm] σ rfl ?_
        refine sw_callS k_X3_greatestSpeed rfl cS_J9_min_7cf53 ml_X3_44 ⟨by decide, by decide⟩ [.inl lm, .inl (σ 2 ((p + ((-1) * s)).toNat))] [] rfl rfl (Nat.le_of_ble_eq_true rfl) 62 rfl (sp_min σ lm (σ 2 (p + ((-1) * s)).toNat) (by omega) (hσ 2 _)) (fun r6 σ7 hq8 => ?_)
        obtain ⟨rfl, rfl⟩ := hq8
        have gl := hσ 2 (p + ((-1) * s)).toNat
        have hm2 : ∀ t, t ≤ min lm (σ 2 (p + ((-1) * s)).toNat) ↔ sw_rn (σ 2) p (p + (-1) * s) t := fun t => by rw [← sw_rn_step (Or.inr rfl) hs, ← hm t]; omega
        refine sw_blk k_X3_greatestSpeed 3 66 [(3, .inl (min lm (σ 2 (p + ((-1) * s)).toNat))), (5, .inl (p + ((-1) * s))), (4, .inl s), (0, .inr (.inr 1)), (1, .inl p), (2, .inl (-1))] [.inl (min lm (σ 2 (p + ((-1) * s)).toNat)), .inl s] σ rfl ?_
        refine sw_icmp_le k_X3_greatestSpeed rfl (by omega) (by omega) 74 69 (by decide) rfl (fun c9 => ?_) (fun c9 => ?_)
        · refine sw_blk k_X3_greatestSpeed 2 20 [(4, .inl (s + 1)), (3, .inl (min lm (σ 2 (p + ((-1) * s)).toNat))), (5, .inl (p + ((-1) * s))), (0, .inr (.inr 1)), (1, .inl p), (2, .inl (-1))] [] σ rfl ?_
          refine sw_Lsub [(4, .inl (s + 1)), (3, .inl (min lm (σ 2 (p + ((-1) * s)).toNat))), (0, .inr (.inr 1)), (1, .inl p), (2, .inl (-1))] [0, 1, 3, 4, 5] rfl ?_
          exact ih (s + 1) _ (by omega) (by omega) (by rw [show s + 1 - 1 = s by omega]; omega) (by rw [show s + 1 - 1 = s by omega]; exact (hm2 s).mp (by omega)) (by rw [show s + 1 - 1 = s by omega]; exact hm2) (by omega) (by omega)
        · refine sw_blk k_X3_greatestSpeed 3 73 [(3, .inl (min lm (σ 2 (p + ((-1) * s)).toNat))), (5, .inl (p + ((-1) * s))), (4, .inl s), (0, .inr (.inr 1)), (1, .inl p), (2, .inl (-1))] [.inl (s - 1)] σ rfl ?_
          refine sw_ireturn k_X3_greatestSpeed rfl rfl ?_
          exact hQ _ (by omega) (by omega) (sw_gsp (Or.inr rfl) hp hs hsV h1 h2 (Or.inr (Or.inr (fun q => absurd ((hm2 s).mpr q) (by omega)))))
      · refine sw_blk k_X3_greatestSpeed 0 43 [(5, .inl (p + ((-1) * s))), (4, .inl s), (3, .inl lm), (0, .inr (.inr 1)), (1, .inl p), (2, .inl (-1))] [.inl 0] σ rfl ?_
        refine sw_if_ne k_X3_greatestSpeed rfl (by decide) 51 46 (by decide) rfl (fun c => absurd (by decide) c) (fun _ => ?_)
        refine sw_blk k_X3_greatestSpeed 3 50 [(5, .inl (p + ((-1) * s))), (4, .inl s), (3, .inl lm), (0, .inr (.inr 1)), (1, .inl p), (2, .inl (-1))] [.inl (s - 1)] σ rfl ?_
        refine sw_ireturn k_X3_greatestSpeed rfl rfl ?_
        exact hQ _ (by omega) (by omega) (sw_gsp (Or.inr rfl) hp hs hsV h1 h2 (Or.inr (Or.inl (by omega))))
theorem sp_gspu (σ : sw_S) (hσ : sw_gs σ) (p : Int) (hp : 0 ≤ p ∧ p ≤ σ 1 0) (hD : σ 1 0 ≤ 400) (hV : 1 ≤ σ 1 1 ∧ σ 1 1 ≤ 20) (h0 : ∀ x : Int, 0 ≤ x → x ≤ σ 1 0 → 0 ≤ σ 2 x.toNat) : sw_Con sw_ly sw_rho M_X3_greatestSpeed [.inr (.inr 1), .inl p, .inl (-1)] σ (fun r σ' => σ = σ' ∧ ∃ g : Int, r = some (.inl g) ∧ 0 ≤ g ∧ g ≤ σ 1 1 ∧ ∀ t, 0 ≤ t → (sw_tk (σ 2) (σ 1 0) (σ 1 1) p ((-1) * t) ↔ t ≤ g)) := by
  refine sw_con (by decide) (Nat.le_of_ble_eq_true rfl) ?_
  refine sw_blk k_X3_greatestSpeed 2 2 [(0, .inr (.inr 1)), (1, .inl p), (2, .inl (-1))] [.inl p, .inr (.inr 1)] σ rfl ?_
  refine sw_callV k_X3_greatestSpeed rfl cV_X3_has ml_X3_47 ⟨by decide, by decide⟩ 1 rfl rfl [.inl p] [] rfl rfl (Nat.le_of_ble_eq_true rfl) 5 rfl (sp_has σ p (by omega) (hσ 1 0)) (fun r1 σ1 hq => ?_)
  obtain ⟨rfl, ⟨p1, rfl⟩ | ⟨p1, rfl⟩⟩ := hq
  · refine sw_blk k_X3_greatestSpeed 0 5 [(0, .inr (.inr 1)), (1, .inl p), (2, .inl (-1))] [.inl 1] σ rfl ?_
    refine sw_if_ne k_X3_greatestSpeed rfl (by decide) 10 8 (by decide) rfl (fun _ => ?_) (fun c => absurd c (by decide))
    refine sw_blk k_X3_greatestSpeed 3 15 [(0, .inr (.inr 1)), (1, .inl p), (2, .inl (-1))] [.inl p, .inr (.inr 2)] σ rfl ?_
    refine sw_iald k_X3_greatestSpeed rfl (i := 2) (n := 401) rfl (by decide) (by omega) (by omega) 16 rfl ?_
    refine sw_blk k_X3_greatestSpeed 3 20 [(4, .inl 1), (3, .inl (σ 2 p.toNat)), (0, .inr (.inr 1)), (1, .inl p), (2, .inl (-1))] [] σ rfl ?_
    have e0 : p + (-1) * ((1 : Int) - 1) = p := by omega
    refine lp_gspu σ hσ p hp hD hV _ (fun g g1 g2 g3 => ⟨rfl, g, rfl, g1, g2, g3⟩) 22 1 _ (by omega) (by omega) (by omega) ?_ ?_ (hσ 2 _) (by omega)
    · rw [e0]
      intro x hx
      have : x = p := by omega
      subst this
      have := h0 x hp.1 hp.2
      omega
    · rw [e0]
      intro t
      constructor
      · intro q x hx
        have : x = p := by omega
        subst this
        exact q
      · intro q
        exact q p (by omega)
  · exact absurd hp p1
