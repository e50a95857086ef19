/-- a row is written from its start on -/
def sw_pf (σ : sw_S) (c : Nat) (g : Nat → Int) (m : Nat) : sw_S := fun i j => if i = c ∧ j < m then g j else σ i j
theorem sw_pf_0 (σ : sw_S) (c : Nat) (g : Nat → Int) : sw_pf σ c g 0 = σ := by funext i j; simp [sw_pf]
theorem sw_pf_s (σ : sw_S) (c : Nat) (g : Nat → Int) (m : Nat) {v : Int} (hv : v = g m) : sw_u (sw_pf σ c g m) c m v = sw_pf σ c g (m + 1) := by
  subst hv
  funext i j
  unfold sw_u sw_pf
  by_cases hi : i = c
  · subst hi
    by_cases hj : j = m
    · subst hj; simp
    · simp only [true_and]
      rw [if_neg hj]
      by_cases h : j < m
      · rw [if_pos h, if_pos (by omega)]
      · rw [if_neg h, if_neg (by omega)]
  · simp [hi]
theorem sw_pf_row (σ : sw_S) {c : Nat} (g : Nat → Int) (m : Nat) {i : Nat} (h : i ≠ c) (j : Nat) : sw_pf σ c g m i j = σ i j := by simp [sw_pf, h]
theorem sw_pf_in (σ : sw_S) (c : Nat) (g : Nat → Int) {m j : Nat} (h : j < m) : sw_pf σ c g m c j = g j := by simp [sw_pf, h]
theorem sw_pf_out (σ : sw_S) (c : Nat) (g : Nat → Int) {m j : Nat} (h : m ≤ j) : sw_pf σ c g m c j = σ c j := by simp [sw_pf]; omega
theorem sw_pf_gs {σ : sw_S} (h : sw_gs σ) (c : Nat) {g : Nat → Int} (m : Nat) (hg : ∀ j, j < m → sw_g (g j)) : sw_gs (sw_pf σ c g m) := by
  intro i j
  unfold sw_pf
  split
  · next z => exact hg j z.2
  · exact h i j
/-- the wires of n lays from a on -/
def sw_sm (f : Nat → Int) (a : Nat) : Nat → Int
  | 0 => 0
  | n + 1 => sw_sm f a n + (if a + n < 60 then f (a + n) else 0)
theorem sw_sm_b {f : Nat → Int} (h : ∀ j, j < 60 → 0 ≤ f j ∧ f j ≤ 99) (a : Nat) : ∀ n : Nat, 0 ≤ sw_sm f a n ∧ sw_sm f a n ≤ 99 * n
  | 0 => ⟨Int.le_refl 0, Int.le_refl 0⟩
  | n + 1 => by
    have i := sw_sm_b h a n
    unfold sw_sm
    split
    · next z => have := h (a + n) z; omega
    · omega
theorem sw_sm_out (f : Nat → Int) {a t : Nat} (h : 60 ≤ a + t) : ∀ n : Nat, sw_sm f a (t + n) = sw_sm f a t
  | 0 => rfl
  | n + 1 => by
    rw [← Nat.add_assoc]
    show sw_sm f a (t + n) + (if a + (t + n) < 60 then f (a + (t + n)) else 0) = _
    rw [if_neg (by omega), sw_sm_out f h n, Int.add_zero]
theorem sw_sm_cong {f g : Nat → Int} (h : ∀ j, j < 60 → f j = g j) (a : Nat) : ∀ n : Nat, sw_sm f a n = sw_sm g a n
  | 0 => rfl
  | n + 1 => by
    unfold sw_sm
    rw [sw_sm_cong h a n]
    split
    · next z => rw [h (a + n) z]
    · rfl
/-- the first of the greatest -/
def sw_wf (S : Int → Int) (w x : Int) : Prop := 0 ≤ x ∧ x + w ≤ 60 ∧ (∀ i, 0 ≤ i → i + w ≤ 60 → S i ≤ S x) ∧ ∀ i, 0 ≤ i → i < x → S i < S x
theorem sw_wf_one {S : Int → Int} {w x y : Int} (h : sw_wf S w x) (k : sw_wf S w y) : x = y := by
  obtain ⟨h1, h2, h3, h4⟩ := h
  obtain ⟨k1, k2, k3, k4⟩ := k
  rcases Int.lt_trichotomy x y with z | z | z
  · have := k4 x h1 z; have := h3 y k1 k2; omega
  · exact z
  · have := h4 y k1 z; have := k3 x h1 h2; omega
theorem lp_wires (σ : sw_S) (hσ : sw_gs σ) (hb : ∀ j, j < 60 → 0 ≤ σ 13 j ∧ σ 13 j ≤ 99) (a w : Int) (ha : 0 ≤ a ∧ a ≤ 200) (hw : 0 ≤ w ∧ w ≤ 60) (Q : Option sw_Vl → sw_S → Prop) (hQ : Q (some (.inl (sw_sm (σ 13) a.toNat w.toNat))) σ) : ∀ (n : Nat) (t : Nat) (lay sm : Int), lay = a + t → (t : Int) ≤ w → sm = sw_sm (σ 13) a.toNat t → 61 - t < n → sw_E sw_ly sw_rho M_X0_wiresIn 9 [(4, .inl lay), (3, .inl sm), (0, .inr (.inr 12)), (1, .inl a), (2, .inl w)] [] σ Q := by
  intro n
  induction n with
  | zero =>
    intro t lay sm hl ht hs hn
    omega
  | succ n ih =>
    intro t lay sm hl ht hs hn
    refine sw_blk k_X0_wiresIn 4 14 [(4, .inl lay), (3, .inl sm), (0, .inr (.inr 12)), (1, .inl a), (2, .inl w)] [.inl (a + w), .inl lay] σ rfl ?_
    refine sw_icmp_ge k_X0_wiresIn rfl (by omega) (by omega) 40 17 (by decide) rfl (fun c1 => ?_) (fun c1 => ?_)
    · refine sw_blk k_X0_wiresIn 1 41 [(4, .inl lay), (3, .inl sm), (0, .inr (.inr 12)), (1, .inl a), (2, .inl w)] [.inl sm] σ rfl ?_
      refine sw_ireturn k_X0_wiresIn rfl rfl ?_
      have e : sw_sm (σ 13) a.toNat w.toNat = sm := by
        rw [hs]
        rcases Int.lt_or_le (t : Int) w with z | z
        · have := sw_sm_out (σ 13) (a := a.toNat) (t := t) (by omega) (w.toNat - t)
          rw [show t + (w.toNat - t) = w.toNat by omega] at this
          exact this
        · rw [show w.toNat = t by omega]
      rw [← e]
      exact hQ
    · refine sw_blk k_X0_wiresIn 2 21 [(4, .inl lay), (3, .inl sm), (0, .inr (.inr 12)), (1, .inl a), (2, .inl w)] [.inl 60, .inl lay] σ rfl ?_
      refine sw_icmp_ge k_X0_wiresIn rfl (by omega) (by decide) 40 24 (by decide) rfl (fun c2 => ?_) (fun c2 => ?_)
      · refine sw_blk k_X0_wiresIn 1 41 [(4, .inl lay), (3, .inl sm), (0, .inr (.inr 12)), (1, .inl a), (2, .inl w)] [.inl sm] σ rfl ?_
        refine sw_ireturn k_X0_wiresIn rfl rfl ?_
        have e : sw_sm (σ 13) a.toNat w.toNat = sm := by
          rw [hs]
          rcases Int.lt_or_le (t : Int) w with z | z
          · have := sw_sm_out (σ 13) (a := a.toNat) (t := t) (by omega) (w.toNat - t)
            rw [show t + (w.toNat - t) = w.toNat by omega] at this
            exact this
          · rw [show w.toNat = t by omega]
        rw [← e]
        exact hQ
      · refine sw_blk k_X0_wiresIn 4 31 [(4, .inl lay), (3, .inl sm), (0, .inr (.inr 12)), (1, .inl a), (2, .inl w)] [.inl lay, .inr (.inr 13), .inl sm] σ rfl ?_
        refine sw_iald k_X0_wiresIn rfl (i := 13) (n := 60) rfl (by decide) (by omega) (by omega) 32 rfl ?_
        refine sw_blk k_X0_wiresIn 4 9 [(4, .inl (lay + 1)), (3, .inl (sm + (σ 13 lay.toNat))), (0, .inr (.inr 12)), (1, .inl a), (2, .inl w)] [] σ rfl ?_
        exact ih (t + 1) _ _ (by omega) (by omega) (by rw [sw_sm, if_pos (by omega), hs, show a.toNat + t = lay.toNat by omega]) (by omega)
theorem sp_wires (σ : sw_S) (hσ : sw_gs σ) (hb : ∀ j, j < 60 → 0 ≤ σ 13 j ∧ σ 13 j ≤ 99) (a w : Int) (ha : 0 ≤ a ∧ a ≤ 200) (hw : 0 ≤ w ∧ w ≤ 60) : sw_Con sw_ly sw_rho M_X0_wiresIn [.inr (.inr 12), .inl a, .inl w] σ (fun r σ' => σ = σ' ∧ r = some (.inl (sw_sm (σ 13) a.toNat w.toNat))) := by
  refine sw_con (by decide) (Nat.le_of_ble_eq_true rfl) ?_
  refine sw_blk k_X0_wiresIn 4 4 [(3, .inl 0), (0, .inr (.inr 12)), (1, .inl a), (2, .inl w)] [.inl 0, .inl a] σ rfl ?_
  refine sw_callS k_X0_wiresIn rfl cS_J9_max_7cf53 ml_X0_21 ⟨by decide, by decide⟩ [.inl a, .inl 0] [] rfl rfl (Nat.le_of_ble_eq_true rfl) 7 rfl (sp_max σ a 0 (by omega) (by decide)) (fun r1 σ1 hq => ?_)
  obtain ⟨rfl, rfl⟩ := hq
  refine sw_blk k_X0_wiresIn 1 9 [(4, .inl (max a 0)), (3, .inl 0), (0, .inr (.inr 12)), (1, .inl a), (2, .inl w)] [] σ rfl ?_
  exact lp_wires σ hσ hb a w ha hw _ ⟨rfl, rfl⟩ 62 0 _ _ (by omega) (by omega) rfl (by omega)
theorem sp_addBroken (σ : sw_S) (hσ : sw_gs σ) (hb : ∀ j, j < 60 → 0 ≤ σ 13 j ∧ σ 13 j ≤ 99) (l k : Int) (hl : 0 ≤ l ∧ l ≤ 59) (hk : 1 ≤ k ∧ k ≤ 99) : sw_Con sw_ly sw_rho M_X0_addBroken [.inr (.inr 12), .inl l, .inl k] σ (fun r σ' => (sw_u σ 13 l.toNat (min (σ 13 l.toNat + k) 99)) = σ' ∧ r = some (.inl (min (σ 13 l.toNat + k) 99))) := by
  refine sw_con (by decide) (Nat.le_of_ble_eq_true rfl) ?_
  refine sw_blk k_X0_addBroken 6 10 [(0, .inr (.inr 12)), (1, .inl l), (2, .inl k)] [.inl l, .inr (.inr 13), .inl l, .inr (.inr 13)] σ rfl ?_
  refine sw_iald k_X0_addBroken rfl (i := 13) (n := 60) rfl (by decide) (by omega) (by omega) 11 rfl ?_
  refine sw_blk k_X0_addBroken 3 15 [(0, .inr (.inr 12)), (1, .inl l), (2, .inl k)] [.inl 99, .inl ((σ 13 l.toNat) + k), .inl l, .inr (.inr 13)] σ rfl ?_
  refine sw_callS k_X0_addBroken rfl cS_J9_min_7cf53 ml_X0_15 ⟨by decide, by decide⟩ [.inl ((σ 13 l.toNat) + k), .inl 99] [.inl l, .inr (.inr 13)] rfl rfl (Nat.le_of_ble_eq_true rfl) 18 rfl (sp_min σ ((σ 13 l.toNat) + k) 99 (by have := hb l.toNat (by omega); omega) (by decide)) (fun r1 σ2 hq3 => ?_)
  obtain ⟨rfl, rfl⟩ := hq3
  refine sw_blk k_X0_addBroken 0 18 [(0, .inr (.inr 12)), (1, .inl l), (2, .inl k)] [.inl (min ((σ 13 l.toNat) + k) 99), .inl l, .inr (.inr 13)] σ rfl ?_
  refine sw_iast k_X0_addBroken rfl (i := 13) (n := 60) rfl (by decide) (by omega) (by omega) 19 rfl ?_
  refine sw_blk k_X0_addBroken 3 24 [(0, .inr (.inr 12)), (1, .inl l), (2, .inl k)] [.inl l, .inr (.inr 13)] (sw_u σ 13 l.toNat (min ((σ 13 l.toNat) + k) 99)) rfl ?_
  refine sw_iald k_X0_addBroken rfl (i := 13) (n := 60) rfl (by decide) (by omega) (by omega) 25 rfl ?_
  refine sw_blk k_X0_addBroken 0 25 [(0, .inr (.inr 12)), (1, .inl l), (2, .inl k)] [.inl ((sw_u σ 13 l.toNat (min ((σ 13 l.toNat) + k) 99)) 13 l.toNat)] (sw_u σ 13 l.toNat (min ((σ 13 l.toNat) + k) 99)) rfl ?_
  refine sw_ireturn k_X0_addBroken rfl rfl ?_
  exact ⟨rfl, congrArg (fun q : Int => some (Sum.inl q)) (sw_u_same _ _ _ _)⟩
theorem lp_worst (σ : sw_S) (hσ : sw_gs σ) (hb : ∀ j, j < 60 → 0 ≤ σ 13 j ∧ σ 13 j ≤ 99) (w : Int) (hw : 1 ≤ w ∧ w ≤ 60) (Q : Option sw_Vl → sw_S → Prop) (hQ : ∀ x, sw_wf (fun i : Int => sw_sm (σ 13) i.toNat w.toNat) w x → Q (some (.inl x)) σ) : ∀ (n : Nat) (lay gr x : Int), 1 ≤ lay → lay + w ≤ 61 → (0 ≤ x ∧ x < lay) → gr = sw_sm (σ 13) x.toNat w.toNat → (∀ i : Int, 0 ≤ i → i < lay → sw_sm (σ 13) i.toNat w.toNat ≤ gr) → (∀ i : Int, 0 ≤ i → i < x → sw_sm (σ 13) i.toNat w.toNat < gr) → (62 - lay).toNat < n → sw_E sw_ly sw_rho M_X0_firstOfWorst 12 [(4, .inl lay), (3, .inl gr), (2, .inl x), (0, .inr (.inr 12)), (1, .inl w)] [] σ Q := by
  intro n
  induction n with
  | zero =>
    intro lay gr x hl hl2 hx hg h3 h4 hn
    omega
  | succ n ih =>
    intro lay gr x hl hl2 hx hg h3 h4 hn
    refine sw_blk k_X0_firstOfWorst 4 18 [(4, .inl lay), (3, .inl gr), (2, .inl x), (0, .inr (.inr 12)), (1, .inl w)] [.inl 60, .inl (lay + w)] σ rfl ?_
    refine sw_icmp_gt k_X0_firstOfWorst rfl (by omega) (by decide) 48 21 (by decide) rfl (fun c1 => ?_) (fun c1 => ?_)
    · refine sw_blk k_X0_firstOfWorst 1 49 [(4, .inl lay), (3, .inl gr), (2, .inl x), (0, .inr (.inr 12)), (1, .inl w)] [.inl x] σ rfl ?_
      refine sw_ireturn k_X0_firstOfWorst rfl rfl ?_
      refine hQ x ⟨hx.1, by omega, fun i i1 i2 => ?_, fun i i1 i2 => ?_⟩
      · have := h3 i i1 (by omega); rw [hg] at this; exact this
      · have := h4 i i1 i2; rw [hg] at this; exact this
    · refine sw_blk k_X0_firstOfWorst 3 25 [(4, .inl lay), (3, .inl gr), (2, .inl x), (0, .inr (.inr 12)), (1, .inl w)] [.inl w, .inl lay, .inr (.inr 12)] σ rfl ?_
      refine sw_callV k_X0_firstOfWorst rfl cV_X0_wiresIn ml_X0_24 ⟨by decide, by decide⟩ 12 rfl rfl [.inl lay, .inl w] [] rfl rfl (Nat.le_of_ble_eq_true rfl) 28 rfl (sp_wires σ hσ hb lay w (by omega) (by omega)) (fun r2 σ3 hq4 => ?_)
      obtain ⟨rfl, rfl⟩ := hq4
      have hbb := sw_sm_b hb (lay : Int).toNat (w : Int).toNat
      refine sw_blk k_X0_firstOfWorst 3 33 [(5, .inl (sw_sm (σ 13) lay.toNat w.toNat)), (4, .inl lay), (3, .inl gr), (2, .inl x), (0, .inr (.inr 12)), (1, .inl w)] [.inl gr, .inl (sw_sm (σ 13) lay.toNat w.toNat)] σ rfl ?_
      refine sw_icmp_le k_X0_firstOfWorst rfl (by omega) (by have := sw_sm_b hb x.toNat w.toNat; omega) 42 36 (by decide) rfl (fun c5 => ?_) (fun c5 => ?_)
      · refine sw_blk k_X0_firstOfWorst 2 12 [(4, .inl (lay + 1)), (5, .inl (sw_sm (σ 13) lay.toNat w.toNat)), (3, .inl gr), (2, .inl x), (0, .inr (.inr 12)), (1, .inl w)] [] σ rfl ?_
        refine sw_Lsub [(4, .inl (lay + 1)), (3, .inl gr), (2, .inl x), (0, .inr (.inr 12)), (1, .inl w)] [0, 2, 3, 4, 5] rfl ?_
        exact ih (lay + 1) gr x (by omega) (by omega) (by omega) hg (fun i i1 i2 => by rcases Int.lt_or_le i lay with z | z; exact h3 i i1 z; (rw [show i = lay by omega]; omega)) h4 (by omega)
      · refine sw_blk k_X0_firstOfWorst 6 12 [(4, .inl (lay + 1)), (2, .inl lay), (3, .inl (sw_sm (σ 13) lay.toNat w.toNat)), (5, .inl (sw_sm (σ 13) lay.toNat w.toNat)), (0, .inr (.inr 12)), (1, .inl w)] [] σ rfl ?_
        refine sw_Lsub [(4, .inl (lay + 1)), (3, .inl (sw_sm (σ 13) lay.toNat w.toNat)), (2, .inl lay), (0, .inr (.inr 12)), (1, .inl w)] [0, 2, 1, 4, 5] rfl ?_
        exact ih (lay + 1) _ lay (by omega) (by omega) (by omega) rfl (fun i i1 i2 => by rcases Int.lt_or_le i lay with z | z; (have := h3 i i1 z; omega); (rw [show i = lay by omega]; omega)) (fun i i1 i2 => by have := h3 i i1 i2; omega) (by omega)
theorem sp_firstOfWorst (σ : sw_S) (hσ : sw_gs σ) (hb : ∀ j, j < 60 → 0 ≤ σ 13 j ∧ σ 13 j ≤ 99) (w : Int) (hw : 1 ≤ w ∧ w ≤ 60) : sw_Con sw_ly sw_rho M_X0_firstOfWorst [.inr (.inr 12), .inl w] σ (fun r σ' => σ = σ' ∧ ∃ x : Int, r = some (.inl x) ∧ sw_wf (fun i : Int => sw_sm (σ 13) i.toNat w.toNat) w x) := by
  refine sw_con (by decide) (Nat.le_of_ble_eq_true rfl) ?_
  refine sw_blk k_X0_firstOfWorst 5 5 [(2, .inl 0), (0, .inr (.inr 12)), (1, .inl w)] [.inl w, .inl 0, .inr (.inr 12)] σ rfl ?_
  refine sw_callV k_X0_firstOfWorst rfl cV_X0_wiresIn ml_X0_24 ⟨by decide, by decide⟩ 12 rfl rfl [.inl 0, .inl w] [] rfl rfl (Nat.le_of_ble_eq_true rfl) 8 rfl (sp_wires σ hσ hb 0 w (by omega) (by omega)) (fun r1 σ2 hq3 => ?_)
  obtain ⟨rfl, rfl⟩ := hq3
  have hbb := sw_sm_b hb (0 : Int).toNat (w : Int).toNat
  refine sw_blk k_X0_firstOfWorst 3 12 [(4, .inl 1), (3, .inl (sw_sm (σ 13) 0 w.toNat)), (2, .inl 0), (0, .inr (.inr 12)), (1, .inl w)] [] σ rfl ?_
  exact lp_worst σ hσ hb w hw _ (fun x hx => ⟨rfl, x, rfl, hx⟩) 63 1 _ 0 (by omega) (by omega) (by omega) rfl (fun i i1 i2 => by rw [show i = 0 by omega]; exact Int.le_refl _) (fun i i1 i2 => by omega) (by omega)
theorem lp_cut (σ : sw_S) (hσ : sw_gs σ) (hb : ∀ j, j < 60 → 0 ≤ σ 13 j ∧ σ 13 j ≤ 99) (k gone : Int) (hk : 1 ≤ k ∧ k ≤ 60) (Q : Option sw_Vl → sw_S → Prop) (hQ : Q (some (.inl gone)) (sw_pf σ 13 (fun j : Nat => if j + k.toNat < 60 then σ 13 (j + k.toNat) else 0) 60)) : ∀ (n : Nat) (i : Nat), i ≤ 60 → 61 - i < n → sw_E sw_ly sw_rho M_X0_cutAway 9 [(3, .inl (i : Int)), (2, .inl gone), (0, .inr (.inr 12)), (1, .inl k)] [] (sw_pf σ 13 (fun j : Nat => if j + k.toNat < 60 then σ 13 (j + k.toNat) else 0) i) Q := by
  intro n
  induction n with
  | zero =>
    intro i hi hn
    omega
  | succ n ih =>
    intro i hi hn
    refine sw_blk k_X0_cutAway 2 12 [(3, .inl (i : Int)), (2, .inl gone), (0, .inr (.inr 12)), (1, .inl k)] [.inl 60, .inl (i : Int)] (sw_pf σ 13 (fun j : Nat => if j + k.toNat < 60 then σ 13 (j + k.toNat) else 0) i) rfl ?_
    refine sw_icmp_ge k_X0_cutAway rfl (by omega) (by decide) 47 15 (by decide) rfl (fun c1 => ?_) (fun c1 => ?_)
    · refine sw_blk k_X0_cutAway 1 48 [(3, .inl (i : Int)), (2, .inl gone), (0, .inr (.inr 12)), (1, .inl k)] [.inl gone] (sw_pf σ 13 (fun j : Nat => if j + k.toNat < 60 then σ 13 (j + k.toNat) else 0) i) rfl ?_
      refine sw_ireturn k_X0_cutAway rfl rfl ?_
      have e : i = 60 := by omega
      subst e
      exact hQ
    · refine sw_blk k_X0_cutAway 7 25 [(3, .inl (i : Int)), (2, .inl gone), (0, .inr (.inr 12)), (1, .inl k)] [.inl 60, .inl ((i : Int) + k), .inl (i : Int), .inr (.inr 13)] (sw_pf σ 13 (fun j : Nat => if j + k.toNat < 60 then σ 13 (j + k.toNat) else 0) i) rfl ?_
      refine sw_icmp_ge k_X0_cutAway rfl (by omega) (by decide) 39 28 (by decide) rfl (fun c2 => ?_) (fun c2 => ?_)
      · refine sw_blk k_X0_cutAway 1 40 [(3, .inl (i : Int)), (2, .inl gone), (0, .inr (.inr 12)), (1, .inl k)] [.inl 0, .inl (i : Int), .inr (.inr 13)] (sw_pf σ 13 (fun j : Nat => if j + k.toNat < 60 then σ 13 (j + k.toNat) else 0) i) rfl ?_
        refine sw_iast k_X0_cutAway rfl (i := 13) (n := 60) rfl (by decide) (by omega) (by omega) 41 rfl ?_
        refine sw_blk k_X0_cutAway 2 9 [(3, .inl ((i : Int) + 1)), (2, .inl gone), (0, .inr (.inr 12)), (1, .inl k)] [] (sw_u (sw_pf σ 13 (fun j : Nat => if j + k.toNat < 60 then σ 13 (j + k.toNat) else 0) i) 13 i 0) rfl ?_
        rw [sw_pf_s σ 13 (fun j : Nat => if j + k.toNat < 60 then σ 13 (j + k.toNat) else 0) (i : Nat) (by first | (rw [if_neg (by omega)]; done) | (rw [if_pos (by omega), show ((i : Int) + k).toNat = i + k.toNat by omega]; exact sw_pf_out σ 13 _ (by omega)))]
        exact ih (i + 1) (by omega) (by omega)
      · refine sw_blk k_X0_cutAway 5 35 [(3, .inl (i : Int)), (2, .inl gone), (0, .inr (.inr 12)), (1, .inl k)] [.inl ((i : Int) + k), .inr (.inr 13), .inl (i : Int), .inr (.inr 13)] (sw_pf σ 13 (fun j : Nat => if j + k.toNat < 60 then σ 13 (j + k.toNat) else 0) i) rfl ?_
        refine sw_iald k_X0_cutAway rfl (i := 13) (n := 60) rfl (by decide) (by omega) (by omega) 36 rfl ?_
        refine sw_blk k_X0_cutAway 1 40 [(3, .inl (i : Int)), (2, .inl gone), (0, .inr (.inr 12)), (1, .inl k)] [.inl ((sw_pf σ 13 (fun j : Nat => if j + k.toNat < 60 then σ 13 (j + k.toNat) else 0) i) 13 (((i : Int) + k).toNat)), .inl (i : Int), .inr (.inr 13)] (sw_pf σ 13 (fun j : Nat => if j + k.toNat < 60 then σ 13 (j + k.toNat) else 0) i) rfl ?_
        refine sw_iast k_X0_cutAway rfl (i := 13) (n := 60) rfl (by decide) (by omega) (by omega) 41 rfl ?_
        refine sw_blk k_X0_cutAway 2 9 [(3, .inl ((i : Int) + 1)), (2, .inl gone), (0, .inr (.inr 12)), (1, .inl k)] [] (sw_u (sw_pf σ 13 (fun j : Nat => if j + k.toNat < 60 then σ 13 (j + k.toNat) else 0) i) 13 i ((sw_pf σ 13 (fun j : Nat => if j + k.toNat < 60 then σ 13 (j + k.toNat) else 0) i) 13 (((i : Int) + k).toNat))) rfl ?_
        rw [sw_pf_s σ 13 (fun j : Nat => if j + k.toNat < 60 then σ 13 (j + k.toNat) else 0) (i : Nat) (by first | (rw [if_neg (by omega)]; done) | (rw [if_pos (by omega), show ((i : Int) + k).toNat = i + k.toNat by omega]; exact sw_pf_out σ 13 _ (by omega)))]
        exact ih (i + 1) (by omega) (by omega)
theorem sp_cutAway (σ : sw_S) (hσ : sw_gs σ) (hb : ∀ j, j < 60 → 0 ≤ σ 13 j ∧ σ 13 j ≤ 99) (k : Int) (hk : 1 ≤ k ∧ k ≤ 60) : sw_Con sw_ly sw_rho M_X0_cutAway [.inr (.inr 12), .inl k] σ (fun r σ' => sw_pf σ 13 (fun j : Nat => if j + k.toNat < 60 then σ 13 (j + k.toNat) else 0) 60 = σ' ∧ r = some (.inl (sw_sm (σ 13) 0 k.toNat))) := by
  refine sw_con (by decide) (Nat.le_of_ble_eq_true rfl) ?_
  refine sw_blk k_X0_cutAway 3 3 [(0, .inr (.inr 12)), (1, .inl k)] [.inl k, .inl 0, .inr (.inr 12)] σ rfl ?_
  refine sw_callV k_X0_cutAway rfl cV_X0_wiresIn ml_X0_24 ⟨by decide, by decide⟩ 12 rfl rfl [.inl 0, .inl k] [] rfl rfl (Nat.le_of_ble_eq_true rfl) 6 rfl (sp_wires σ hσ hb 0 k (by omega) (by omega)) (fun r1 σ2 hq3 => ?_)
  obtain ⟨rfl, rfl⟩ := hq3
  have hbb := sw_sm_b hb (0 : Int).toNat (k : Int).toNat
  refine sw_blk k_X0_cutAway 3 9 [(3, .inl 0), (2, .inl (sw_sm (σ 13) 0 k.toNat)), (0, .inr (.inr 12)), (1, .inl k)] [] σ rfl ?_
  have h := lp_cut σ hσ hb k (sw_sm (σ 13) 0 k.toNat) hk (fun r σ' => sw_pf σ 13 (fun j : Nat => if j + k.toNat < 60 then σ 13 (j + k.toNat) else 0) 60 = σ' ∧ r = some (.inl (sw_sm (σ 13) 0 k.toNat))) ⟨rfl, rfl⟩ 62 0 (by omega) (by omega)
  rw [sw_pf_0] at h
  exact h
theorem lp_mend (σ : sw_S) (hσ : sw_gs σ) (hb : ∀ j, j < 60 → 0 ≤ σ 13 j ∧ σ 13 j ≤ 99) (w m : Int) (hw : 1 ≤ w ∧ w ≤ 60) (gm : sw_g m) (Q : Option sw_Vl → sw_S → Prop) (hQ : ∀ x : Int, ((x = 0 ∧ ∀ i : Int, 0 ≤ i → i ≤ 59 → sw_sm (σ 13) i.toNat w.toNat ≤ m) ∨ (1 ≤ x ∧ x ≤ 60 ∧ m < sw_sm (σ 13) (x - 1).toNat w.toNat ∧ ∀ i : Int, x ≤ i → i ≤ 59 → sw_sm (σ 13) i.toNat w.toNat ≤ m)) → Q (some (.inl x)) σ) : ∀ (n : Nat) (lay : Int), -1 ≤ lay → lay ≤ 59 → (∀ i : Int, lay < i → i ≤ 59 → sw_sm (σ 13) i.toNat w.toNat ≤ m) → (lay + 1).toNat < n → sw_E sw_ly sw_rho M_X0_fewestToCut 3 [(3, .inl lay), (0, .inr (.inr 12)), (1, .inl w), (2, .inl m)] [] σ Q := by
  intro n
  induction n with
  | zero =>
    intro lay hl hl2 h3 hn
    omega
  | succ n ih =>
    intro lay hl hl2 h3 hn
    refine sw_blk k_X0_fewestToCut 1 4 [(3, .inl lay), (0, .inr (.inr 12)), (1, .inl w), (2, .inl m)] [.inl lay] σ rfl ?_
    refine sw_if_lt k_X0_fewestToCut rfl (by omega) 27 7 (by decide) rfl (fun c1 => ?_) (fun c1 => ?_)
    · refine sw_blk k_X0_fewestToCut 1 28 [(3, .inl lay), (0, .inr (.inr 12)), (1, .inl w), (2, .inl m)] [.inl 0] σ rfl ?_
      refine sw_ireturn k_X0_fewestToCut rfl rfl ?_
      exact hQ 0 (Or.inl ⟨rfl, fun i i1 i2 => h3 i (by omega) i2⟩)
    · refine sw_blk k_X0_fewestToCut 3 10 [(3, .inl lay), (0, .inr (.inr 12)), (1, .inl w), (2, .inl m)] [.inl w, .inl lay, .inr (.inr 12)] σ rfl ?_
      refine sw_callV k_X0_fewestToCut rfl cV_X0_wiresIn ml_X0_24 ⟨by decide, by decide⟩ 12 rfl rfl [.inl lay, .inl w] [] rfl rfl (Nat.le_of_ble_eq_true rfl) 13 rfl (sp_wires σ hσ hb lay w (by omega) (by omega)) (fun r2 σ3 hq4 => ?_)
      obtain ⟨rfl, rfl⟩ := hq4
      have hbb := sw_sm_b hb (lay : Int).toNat (w : Int).toNat
      refine sw_blk k_X0_fewestToCut 1 14 [(3, .inl lay), (0, .inr (.inr 12)), (1, .inl w), (2, .inl m)] [.inl m, .inl (sw_sm (σ 13) lay.toNat w.toNat)] σ rfl ?_
      refine sw_icmp_le k_X0_fewestToCut rfl (by omega) (by omega) 21 17 (by decide) rfl (fun c5 => ?_) (fun c5 => ?_)
      · refine sw_blk k_X0_fewestToCut 2 3 [(3, .inl (lay + (-1))), (0, .inr (.inr 12)), (1, .inl w), (2, .inl m)] [] σ rfl ?_
        exact ih (lay + (-1)) (by omega) (by omega) (fun i i1 i2 => by rcases Int.lt_or_le lay i with z | z; exact h3 i z i2; (rw [show i = lay by omega]; omega)) (by omega)
      · refine sw_blk k_X0_fewestToCut 3 20 [(3, .inl lay), (0, .inr (.inr 12)), (1, .inl w), (2, .inl m)] [.inl (lay + 1)] σ rfl ?_
        refine sw_ireturn k_X0_fewestToCut rfl rfl ?_
        exact hQ (lay + 1) (Or.inr ⟨by omega, by omega, by rw [show lay + 1 - 1 = lay by omega]; omega, fun i i1 i2 => h3 i (by omega) i2⟩)
theorem sp_fewest (σ : sw_S) (hσ : sw_gs σ) (hb : ∀ j, j < 60 → 0 ≤ σ 13 j ∧ σ 13 j ≤ 99) (w m : Int) (hw : 1 ≤ w ∧ w ≤ 60) (gm : sw_g m) : sw_Con sw_ly sw_rho M_X0_fewestToCut [.inr (.inr 12), .inl w, .inl m] σ (fun r σ' => σ = σ' ∧ ∃ x : Int, r = some (.inl x) ∧ ((x = 0 ∧ ∀ i : Int, 0 ≤ i → i ≤ 59 → sw_sm (σ 13) i.toNat w.toNat ≤ m) ∨ (1 ≤ x ∧ x ≤ 60 ∧ m < sw_sm (σ 13) (x - 1).toNat w.toNat ∧ ∀ i : Int, x ≤ i → i ≤ 59 → sw_sm (σ 13) i.toNat w.toNat ≤ m))) := by
  refine sw_con (by decide) (Nat.le_of_ble_eq_true rfl) ?_
  refine sw_blk k_X0_fewestToCut 2 3 [(3, .inl 59), (0, .inr (.inr 12)), (1, .inl w), (2, .inl m)] [] σ rfl ?_
  exact lp_mend σ hσ hb w m hw gm _ (fun x hx => ⟨rfl, x, rfl, hx⟩) 61 59 (by omega) (by omega) (fun i i1 i2 => by omega) (by omega)
theorem lp_take0 (σ : sw_S) (hσ : sw_gs σ) (k : Int) (hk : 0 ≤ k ∧ k ≤ 60) (Q : Option sw_Vl → sw_S → Prop) (hQ : Q none (sw_pf σ 13 (fun j : Nat => max 0 (min (σ 16 j) 99)) k.toNat)) : ∀ (n : Nat) (i : Nat), (i : Int) ≤ k → 61 - i < n → sw_E sw_ly sw_rho M_X0_take 2 [(3, .inl (i : Int)), (0, .inr (.inr 12)), (1, .inr (.inr 16)), (2, .inl k)] [] (sw_pf σ 13 (fun j : Nat => max 0 (min (σ 16 j) 99)) i) Q := by
  intro n
  induction n with
  | zero =>
    intro i hi hn
    omega
  | succ n ih =>
    intro i hi hn
    refine sw_blk k_X0_take 2 4 [(3, .inl (i : Int)), (0, .inr (.inr 12)), (1, .inr (.inr 16)), (2, .inl k)] [.inl k, .inl (i : Int)] (sw_pf σ 13 (fun j : Nat => max 0 (min (σ 16 j) 99)) i) rfl ?_
    refine sw_icmp_ge k_X0_take rfl (by omega) (by omega) 43 7 (by decide) rfl (fun c1 => ?_) (fun c1 => ?_)
    · refine sw_vreturn k_X0_take rfl rfl ?_
      have e : k.toNat = i := by omega
      rw [e] at hQ
      exact hQ
    · refine sw_blk k_X0_take 2 10 [(3, .inl (i : Int)), (0, .inr (.inr 12)), (1, .inr (.inr 16)), (2, .inl k)] [.inl 60, .inl (i : Int)] (sw_pf σ 13 (fun j : Nat => max 0 (min (σ 16 j) 99)) i) rfl ?_
      refine sw_icmp_ge k_X0_take rfl (by omega) (by decide) 43 13 (by decide) rfl (fun c2 => ?_) (fun c2 => ?_)
      · refine sw_vreturn k_X0_take rfl rfl ?_
        have e : k.toNat = i := by omega
        rw [e] at hQ
        exact hQ
      · refine sw_blk k_X0_take 3 16 [(3, .inl (i : Int)), (0, .inr (.inr 12)), (1, .inr (.inr 16)), (2, .inl k)] [.inl 60, .inl (i : Int)] (sw_pf σ 13 (fun j : Nat => max 0 (min (σ 16 j) 99)) i) rfl ?_
        refine sw_icmp_ge k_X0_take rfl (by omega) (by decide) 43 19 (by decide) rfl (fun c3 => ?_) (fun c3 => ?_)
        · refine sw_vreturn k_X0_take rfl rfl ?_
          have e : k.toNat = i := by omega
          rw [e] at hQ
          exact hQ
        · refine sw_blk k_X0_take 6 27 [(3, .inl (i : Int)), (0, .inr (.inr 12)), (1, .inr (.inr 16)), (2, .inl k)] [.inl (i : Int), .inr (.inr 16), .inl 0, .inl (i : Int), .inr (.inr 13)] (sw_pf σ 13 (fun j : Nat => max 0 (min (σ 16 j) 99)) i) rfl ?_
          refine sw_iald k_X0_take rfl (i := 16) (n := 60) rfl (by decide) (by omega) (by omega) 28 rfl ?_
          refine sw_blk k_X0_take 1 30 [(3, .inl (i : Int)), (0, .inr (.inr 12)), (1, .inr (.inr 16)), (2, .inl k)] [.inl 99, .inl ((sw_pf σ 13 (fun j : Nat => max 0 (min (σ 16 j) 99)) i) 16 i), .inl 0, .inl (i : Int), .inr (.inr 13)] (sw_pf σ 13 (fun j : Nat => max 0 (min (σ 16 j) 99)) i) rfl ?_
          refine sw_callS k_X0_take rfl cS_J9_min_7cf53 ml_X0_15 ⟨by decide, by decide⟩ [.inl ((sw_pf σ 13 (fun j : Nat => max 0 (min (σ 16 j) 99)) i) 16 i), .inl 99] [.inl 0, .inl (i : Int), .inr (.inr 13)] rfl rfl (Nat.le_of_ble_eq_true rfl) 33 rfl (sp_min (sw_pf σ 13 (fun j : Nat => max 0 (min (σ 16 j) 99)) i) ((sw_pf σ 13 (fun j : Nat => max 0 (min (σ 16 j) 99)) i) 16 i) 99 (by have := hσ 16 i; show sw_g (σ 16 i); exact this) (by decide)) (fun r4 σ5 hq6 => ?_)
          obtain ⟨rfl, rfl⟩ := hq6
          refine sw_blk k_X0_take 0 33 [(3, .inl (i : Int)), (0, .inr (.inr 12)), (1, .inr (.inr 16)), (2, .inl k)] [.inl (min ((sw_pf σ 13 (fun j : Nat => max 0 (min (σ 16 j) 99)) i) 16 i) 99), .inl 0, .inl (i : Int), .inr (.inr 13)] (sw_pf σ 13 (fun j : Nat => max 0 (min (σ 16 j) 99)) i) rfl ?_
          refine sw_callS k_X0_take rfl cS_J9_max_7cf53 ml_X0_21 ⟨by decide, by decide⟩ [.inl 0, .inl (min ((sw_pf σ 13 (fun j : Nat => max 0 (min (σ 16 j) 99)) i) 16 i) 99)] [.inl (i : Int), .inr (.inr 13)] rfl rfl (Nat.le_of_ble_eq_true rfl) 36 rfl (sp_max (sw_pf σ 13 (fun j : Nat => max 0 (min (σ 16 j) 99)) i) 0 (min ((sw_pf σ 13 (fun j : Nat => max 0 (min (σ 16 j) 99)) i) 16 i) 99) (by decide) (by have := hσ 16 i; show sw_g (min (σ 16 i) 99); omega)) (fun r7 σ8 hq9 => ?_)
          obtain ⟨rfl, rfl⟩ := hq9
          refine sw_blk k_X0_take 0 36 [(3, .inl (i : Int)), (0, .inr (.inr 12)), (1, .inr (.inr 16)), (2, .inl k)] [.inl (max 0 (min ((sw_pf σ 13 (fun j : Nat => max 0 (min (σ 16 j) 99)) i) 16 i) 99)), .inl (i : Int), .inr (.inr 13)] (sw_pf σ 13 (fun j : Nat => max 0 (min (σ 16 j) 99)) i) rfl ?_
          refine sw_iast k_X0_take rfl (i := 13) (n := 60) rfl (by decide) (by omega) (by omega) 37 rfl ?_
          refine sw_blk k_X0_take 2 2 [(3, .inl ((i : Int) + 1)), (0, .inr (.inr 12)), (1, .inr (.inr 16)), (2, .inl k)] [] (sw_u (sw_pf σ 13 (fun j : Nat => max 0 (min (σ 16 j) 99)) i) 13 i (max 0 (min ((sw_pf σ 13 (fun j : Nat => max 0 (min (σ 16 j) 99)) i) 16 i) 99))) rfl ?_
          rw [sw_pf_s σ 13 (fun j : Nat => max 0 (min (σ 16 j) 99)) i (by rw [sw_pf_row σ _ _ (by decide)])]
          exact ih (i + 1) (by omega) (by omega)
theorem sp_take0 (σ : sw_S) (hσ : sw_gs σ) (k : Int) (hk : 0 ≤ k ∧ k ≤ 60) : sw_Con sw_ly sw_rho M_X0_take [.inr (.inr 12), .inr (.inr 16), .inl k] σ (fun r σ' => sw_pf σ 13 (fun j : Nat => max 0 (min (σ 16 j) 99)) k.toNat = σ' ∧ r = none) := by
  refine sw_con (by decide) (Nat.le_of_ble_eq_true rfl) ?_
  refine sw_blk k_X0_take 2 2 [(3, .inl 0), (0, .inr (.inr 12)), (1, .inr (.inr 16)), (2, .inl k)] [] σ rfl ?_
  have h := lp_take0 σ hσ k hk (fun r σ' => sw_pf σ 13 (fun j : Nat => max 0 (min (σ 16 j) 99)) k.toNat = σ' ∧ r = none) ⟨rfl, rfl⟩ 62 0 (by omega) (by omega)
  rw [sw_pf_0] at h
  exact h
theorem lp_take1 (σ : sw_S) (hσ : sw_gs σ) (k : Int) (hk : 0 ≤ k ∧ k ≤ 60) (Q : Option sw_Vl → sw_S → Prop) (hQ : Q none (sw_pf σ 13 (fun j : Nat => max 0 (min (σ 18 j) 99)) k.toNat)) : ∀ (n : Nat) (i : Nat), (i : Int) ≤ k → 61 - i < n → sw_E sw_ly sw_rho M_X0_take 2 [(3, .inl (i : Int)), (0, .inr (.inr 12)), (1, .inr (.inr 18)), (2, .inl k)] [] (sw_pf σ 13 (fun j : Nat => max 0 (min (σ 18 j) 99)) i) Q := by
  intro n
  induction n with
  | zero =>
    intro i hi hn
    omega
  | succ n ih =>
    intro i hi hn
    refine sw_blk k_X0_take 2 4 [(3, .inl (i : Int)), (0, .inr (.inr 12)), (1, .inr (.inr 18)), (2, .inl k)] [.inl k, .inl (i : Int)] (sw_pf σ 13 (fun j : Nat => max 0 (min (σ 18 j) 99)) i) rfl ?_
    refine sw_icmp_ge k_X0_take rfl (by omega) (by omega) 43 7 (by decide) rfl (fun c1 => ?_) (fun c1 => ?_)
    · refine sw_vreturn k_X0_take rfl rfl ?_
      have e : k.toNat = i := by omega
      rw [e] at hQ
      exact hQ
    · refine sw_blk k_X0_take 2 10 [(3, .inl (i : Int)), (0, .inr (.inr 12)), (1, .inr (.inr 18)), (2, .inl k)] [.inl 60, .inl (i : Int)] (sw_pf σ 13 (fun j : Nat => max 0 (min (σ 18 j) 99)) i) rfl ?_
      refine sw_icmp_ge k_X0_take rfl (by omega) (by decide) 43 13 (by decide) rfl (fun c2 => ?_) (fun c2 => ?_)
      · refine sw_vreturn k_X0_take rfl rfl ?_
        have e : k.toNat = i := by omega
        rw [e] at hQ
        exact hQ
      · refine sw_blk k_X0_take 3 16 [(3, .inl (i : Int)), (0, .inr (.inr 12)), (1, .inr (.inr 18)), (2, .inl k)] [.inl 60, .inl (i : Int)] (sw_pf σ 13 (fun j : Nat => max 0 (min (σ 18 j) 99)) i) rfl ?_
        refine sw_icmp_ge k_X0_take rfl (by omega) (by decide) 43 19 (by decide) rfl (fun c3 => ?_) (fun c3 => ?_)
        · refine sw_vreturn k_X0_take rfl rfl ?_
          have e : k.toNat = i := by omega
          rw [e] at hQ
          exact hQ
        · refine sw_blk k_X0_take 6 27 [(3, .inl (i : Int)), (0, .inr (.inr 12)), (1, .inr (.inr 18)), (2, .inl k)] [.inl (i : Int), .inr (.inr 18), .inl 0, .inl (i : Int), .inr (.inr 13)] (sw_pf σ 13 (fun j : Nat => max 0 (min (σ 18 j) 99)) i) rfl ?_
          refine sw_iald k_X0_take rfl (i := 18) (n := 60) rfl (by decide) (by omega) (by omega) 28 rfl ?_
          refine sw_blk k_X0_take 1 30 [(3, .inl (i : Int)), (0, .inr (.inr 12)), (1, .inr (.inr 18)), (2, .inl k)] [.inl 99, .inl ((sw_pf σ 13 (fun j : Nat => max 0 (min (σ 18 j) 99)) i) 18 i), .inl 0, .inl (i : Int), .inr (.inr 13)] (sw_pf σ 13 (fun j : Nat => max 0 (min (σ 18 j) 99)) i) rfl ?_
          refine sw_callS k_X0_take rfl cS_J9_min_7cf53 ml_X0_15 ⟨by decide, by decide⟩ [.inl ((sw_pf σ 13 (fun j : Nat => max 0 (min (σ 18 j) 99)) i) 18 i), .inl 99] [.inl 0, .inl (i : Int), .inr (.inr 13)] rfl rfl (Nat.le_of_ble_eq_true rfl) 33 rfl (sp_min (sw_pf σ 13 (fun j : Nat => max 0 (min (σ 18 j) 99)) i) ((sw_pf σ 13 (fun j : Nat => max 0 (min (σ 18 j) 99)) i) 18 i) 99 (by have := hσ 18 i; show sw_g (σ 18 i); exact this) (by decide)) (fun r4 σ5 hq6 => ?_)
          obtain ⟨rfl, rfl⟩ := hq6
          refine sw_blk k_X0_take 0 33 [(3, .inl (i : Int)), (0, .inr (.inr 12)), (1, .inr (.inr 18)), (2, .inl k)] [.inl (min ((sw_pf σ 13 (fun j : Nat => max 0 (min (σ 18 j) 99)) i) 18 i) 99), .inl 0, .inl (i : Int), .inr (.inr 13)] (sw_pf σ 13 (fun j : Nat => max 0 (min (σ 18 j) 99)) i) rfl ?_
          refine sw_callS k_X0_take rfl cS_J9_max_7cf53 ml_X0_21 ⟨by decide, by decide⟩ [.inl 0, .inl (min ((sw_pf σ 13 (fun j : Nat => max 0 (min (σ 18 j) 99)) i) 18 i) 99)] [.inl (i : Int), .inr (.inr 13)] rfl rfl (Nat.le_of_ble_eq_true rfl) 36 rfl (sp_max (sw_pf σ 13 (fun j : Nat => max 0 (min (σ 18 j) 99)) i) 0 (min ((sw_pf σ 13 (fun j : Nat => max 0 (min (σ 18 j) 99)) i) 18 i) 99) (by decide) (by have := hσ 18 i; show sw_g (min (σ 18 i) 99); omega)) (fun r7 σ8 hq9 => ?_)
          obtain ⟨rfl, rfl⟩ := hq9
          refine sw_blk k_X0_take 0 36 [(3, .inl (i : Int)), (0, .inr (.inr 12)), (1, .inr (.inr 18)), (2, .inl k)] [.inl (max 0 (min ((sw_pf σ 13 (fun j : Nat => max 0 (min (σ 18 j) 99)) i) 18 i) 99)), .inl (i : Int), .inr (.inr 13)] (sw_pf σ 13 (fun j : Nat => max 0 (min (σ 18 j) 99)) i) rfl ?_
          refine sw_iast k_X0_take rfl (i := 13) (n := 60) rfl (by decide) (by omega) (by omega) 37 rfl ?_
          refine sw_blk k_X0_take 2 2 [(3, .inl ((i : Int) + 1)), (0, .inr (.inr 12)), (1, .inr (.inr 18)), (2, .inl k)] [] (sw_u (sw_pf σ 13 (fun j : Nat => max 0 (min (σ 18 j) 99)) i) 13 i (max 0 (min ((sw_pf σ 13 (fun j : Nat => max 0 (min (σ 18 j) 99)) i) 18 i) 99))) rfl ?_
          rw [sw_pf_s σ 13 (fun j : Nat => max 0 (min (σ 18 j) 99)) i (by rw [sw_pf_row σ _ _ (by decide)])]
          exact ih (i + 1) (by omega) (by omega)
theorem sp_take1 (σ : sw_S) (hσ : sw_gs σ) (k : Int) (hk : 0 ≤ k ∧ k ≤ 60) : sw_Con sw_ly sw_rho M_X0_take [.inr (.inr 12), .inr (.inr 18), .inl k] σ (fun r σ' => sw_pf σ 13 (fun j : Nat => max 0 (min (σ 18 j) 99)) k.toNat = σ' ∧ r = none) := by
  refine sw_con (by decide) (Nat.le_of_ble_eq_true rfl) ?_
  refine sw_blk k_X0_take 2 2 [(3, .inl 0), (0, .inr (.inr 12)), (1, .inr (.inr 18)), (2, .inl k)] [] σ rfl ?_
  have h := lp_take1 σ hσ k hk (fun r σ' => sw_pf σ 13 (fun j : Nat => max 0 (min (σ 18 j) 99)) k.toNat = σ' ∧ r = none) ⟨rfl, rfl⟩ 62 0 (by omega) (by omega)
  rw [sw_pf_0] at h
  exact h
theorem lp_take2 (σ : sw_S) (hσ : sw_gs σ) (k : Int) (hk : 0 ≤ k ∧ k ≤ 60) (Q : Option sw_Vl → sw_S → Prop) (hQ : Q none (sw_pf σ 13 (fun j : Nat => max 0 (min (σ 20 j) 99)) k.toNat)) : ∀ (n : Nat) (i : Nat), (i : Int) ≤ k → 61 - i < n → sw_E sw_ly sw_rho M_X0_take 2 [(3, .inl (i : Int)), (0, .inr (.inr 12)), (1, .inr (.inr 20)), (2, .inl k)] [] (sw_pf σ 13 (fun j : Nat => max 0 (min (σ 20 j) 99)) i) Q := by
  intro n
  induction n with
  | zero =>
    intro i hi hn
    omega
  | succ n ih =>
    intro i hi hn
    refine sw_blk k_X0_take 2 4 [(3, .inl (i : Int)), (0, .inr (.inr 12)), (1, .inr (.inr 20)), (2, .inl k)] [.inl k, .inl (i : Int)] (sw_pf σ 13 (fun j : Nat => max 0 (min (σ 20 j) 99)) i) rfl ?_
    refine sw_icmp_ge k_X0_take rfl (by omega) (by omega) 43 7 (by decide) rfl (fun c1 => ?_) (fun c1 => ?_)
    · refine sw_vreturn k_X0_take rfl rfl ?_
      have e : k.toNat = i := by omega
      rw [e] at hQ
      exact hQ
    · refine sw_blk k_X0_take 2 10 [(3, .inl (i : Int)), (0, .inr (.inr 12)), (1, .inr (.inr 20)), (2, .inl k)] [.inl 60, .inl (i : Int)] (sw_pf σ 13 (fun j : Nat => max 0 (min (σ 20 j) 99)) i) rfl ?_
      refine sw_icmp_ge k_X0_take rfl (by omega) (by decide) 43 13 (by decide) rfl (fun c2 => ?_) (fun c2 => ?_)
      · refine sw_vreturn k_X0_take rfl rfl ?_
        have e : k.toNat = i := by omega
        rw [e] at hQ
        exact hQ
      · refine sw_blk k_X0_take 3 16 [(3, .inl (i : Int)), (0, .inr (.inr 12)), (1, .inr (.inr 20)), (2, .inl k)] [.inl 60, .inl (i : Int)] (sw_pf σ 13 (fun j : Nat => max 0 (min (σ 20 j) 99)) i) rfl ?_
        refine sw_icmp_ge k_X0_take rfl (by omega) (by decide) 43 19 (by decide) rfl (fun c3 => ?_) (fun c3 => ?_)
        · refine sw_vreturn k_X0_take rfl rfl ?_
          have e : k.toNat = i := by omega
          rw [e] at hQ
          exact hQ
        · refine sw_blk k_X0_take 6 27 [(3, .inl (i : Int)), (0, .inr (.inr 12)), (1, .inr (.inr 20)), (2, .inl k)] [.inl (i : Int), .inr (.inr 20), .inl 0, .inl (i : Int), .inr (.inr 13)] (sw_pf σ 13 (fun j : Nat => max 0 (min (σ 20 j) 99)) i) rfl ?_
          refine sw_iald k_X0_take rfl (i := 20) (n := 60) rfl (by decide) (by omega) (by omega) 28 rfl ?_
          refine sw_blk k_X0_take 1 30 [(3, .inl (i : Int)), (0, .inr (.inr 12)), (1, .inr (.inr 20)), (2, .inl k)] [.inl 99, .inl ((sw_pf σ 13 (fun j : Nat => max 0 (min (σ 20 j) 99)) i) 20 i), .inl 0, .inl (i : Int), .inr (.inr 13)] (sw_pf σ 13 (fun j : Nat => max 0 (min (σ 20 j) 99)) i) rfl ?_
          refine sw_callS k_X0_take rfl cS_J9_min_7cf53 ml_X0_15 ⟨by decide, by decide⟩ [.inl ((sw_pf σ 13 (fun j : Nat => max 0 (min (σ 20 j) 99)) i) 20 i), .inl 99] [.inl 0, .inl (i : Int), .inr (.inr 13)] rfl rfl (Nat.le_of_ble_eq_true rfl) 33 rfl (sp_min (sw_pf σ 13 (fun j : Nat => max 0 (min (σ 20 j) 99)) i) ((sw_pf σ 13 (fun j : Nat => max 0 (min (σ 20 j) 99)) i) 20 i) 99 (by have := hσ 20 i; show sw_g (σ 20 i); exact this) (by decide)) (fun r4 σ5 hq6 => ?_)
          obtain ⟨rfl, rfl⟩ := hq6
          refine sw_blk k_X0_take 0 33 [(3, .inl (i : Int)), (0, .inr (.inr 12)), (1, .inr (.inr 20)), (2, .inl k)] [.inl (min ((sw_pf σ 13 (fun j : Nat => max 0 (min (σ 20 j) 99)) i) 20 i) 99), .inl 0, .inl (i : Int), .inr (.inr 13)] (sw_pf σ 13 (fun j : Nat => max 0 (min (σ 20 j) 99)) i) rfl ?_
          refine sw_callS k_X0_take rfl cS_J9_max_7cf53 ml_X0_21 ⟨by decide, by decide⟩ [.inl 0, .inl (min ((sw_pf σ 13 (fun j : Nat => max 0 (min (σ 20 j) 99)) i) 20 i) 99)] [.inl (i : Int), .inr (.inr 13)] rfl rfl (Nat.le_of_ble_eq_true rfl) 36 rfl (sp_max (sw_pf σ 13 (fun j : Nat => max 0 (min (σ 20 j) 99)) i) 0 (min ((sw_pf σ 13 (fun j : Nat => max 0 (min (σ 20 j) 99)) i) 20 i) 99) (by decide) (by have := hσ 20 i; show sw_g (min (σ 20 i) 99); omega)) (fun r7 σ8 hq9 => ?_)
          obtain ⟨rfl, rfl⟩ := hq9
          refine sw_blk k_X0_take 0 36 [(3, .inl (i : Int)), (0, .inr (.inr 12)), (1, .inr (.inr 20)), (2, .inl k)] [.inl (max 0 (min ((sw_pf σ 13 (fun j : Nat => max 0 (min (σ 20 j) 99)) i) 20 i) 99)), .inl (i : Int), .inr (.inr 13)] (sw_pf σ 13 (fun j : Nat => max 0 (min (σ 20 j) 99)) i) rfl ?_
          refine sw_iast k_X0_take rfl (i := 13) (n := 60) rfl (by decide) (by omega) (by omega) 37 rfl ?_
          refine sw_blk k_X0_take 2 2 [(3, .inl ((i : Int) + 1)), (0, .inr (.inr 12)), (1, .inr (.inr 20)), (2, .inl k)] [] (sw_u (sw_pf σ 13 (fun j : Nat => max 0 (min (σ 20 j) 99)) i) 13 i (max 0 (min ((sw_pf σ 13 (fun j : Nat => max 0 (min (σ 20 j) 99)) i) 20 i) 99))) rfl ?_
          rw [sw_pf_s σ 13 (fun j : Nat => max 0 (min (σ 20 j) 99)) i (by rw [sw_pf_row σ _ _ (by decide)])]
          exact ih (i + 1) (by omega) (by omega)
theorem sp_take2 (σ : sw_S) (hσ : sw_gs σ) (k : Int) (hk : 0 ≤ k ∧ k ≤ 60) : sw_Con sw_ly sw_rho M_X0_take [.inr (.inr 12), .inr (.inr 20), .inl k] σ (fun r σ' => sw_pf σ 13 (fun j : Nat => max 0 (min (σ 20 j) 99)) k.toNat = σ' ∧ r = none) := by
  refine sw_con (by decide) (Nat.le_of_ble_eq_true rfl) ?_
  refine sw_blk k_X0_take 2 2 [(3, .inl 0), (0, .inr (.inr 12)), (1, .inr (.inr 20)), (2, .inl k)] [] σ rfl ?_
  have h := lp_take2 σ hσ k hk (fun r σ' => sw_pf σ 13 (fun j : Nat => max 0 (min (σ 20 j) 99)) k.toNat = σ' ∧ r = none) ⟨rfl, rfl⟩ 62 0 (by omega) (by omega)
  rw [sw_pf_0] at h
  exact h
theorem lp_take3 (σ : sw_S) (hσ : sw_gs σ) (k : Int) (hk : 0 ≤ k ∧ k ≤ 60) (Q : Option sw_Vl → sw_S → Prop) (hQ : Q none (sw_pf σ 13 (fun j : Nat => max 0 (min (σ 22 j) 99)) k.toNat)) : ∀ (n : Nat) (i : Nat), (i : Int) ≤ k → 61 - i < n → sw_E sw_ly sw_rho M_X0_take 2 [(3, .inl (i : Int)), (0, .inr (.inr 12)), (1, .inr (.inr 22)), (2, .inl k)] [] (sw_pf σ 13 (fun j : Nat => max 0 (min (σ 22 j) 99)) i) Q := by
  intro n
  induction n with
  | zero =>
    intro i hi hn
    omega
  | succ n ih =>
    intro i hi hn
    refine sw_blk k_X0_take 2 4 [(3, .inl (i : Int)), (0, .inr (.inr 12)), (1, .inr (.inr 22)), (2, .inl k)] [.inl k, .inl (i : Int)] (sw_pf σ 13 (fun j : Nat => max 0 (min (σ 22 j) 99)) i) rfl ?_
    refine sw_icmp_ge k_X0_take rfl (by omega) (by omega) 43 7 (by decide) rfl (fun c1 => ?_) (fun c1 => ?_)
    · refine sw_vreturn k_X0_take rfl rfl ?_
      have e : k.toNat = i := by omega
      rw [e] at hQ
      exact hQ
    · refine sw_blk k_X0_take 2 10 [(3, .inl (i : Int)), (0, .inr (.inr 12)), (1, .inr (.inr 22)), (2, .inl k)] [.inl 60, .inl (i : Int)] (sw_pf σ 13 (fun j : Nat => max 0 (min (σ 22 j) 99)) i) rfl ?_
      refine sw_icmp_ge k_X0_take rfl (by omega) (by decide) 43 13 (by decide) rfl (fun c2 => ?_) (fun c2 => ?_)
      · refine sw_vreturn k_X0_take rfl rfl ?_
        have e : k.toNat = i := by omega
        rw [e] at hQ
        exact hQ
      · refine sw_blk k_X0_take 3 16 [(3, .inl (i : Int)), (0, .inr (.inr 12)), (1, .inr (.inr 22)), (2, .inl k)] [.inl 60, .inl (i : Int)] (sw_pf σ 13 (fun j : Nat => max 0 (min (σ 22 j) 99)) i) rfl ?_
        refine sw_icmp_ge k_X0_take rfl (by omega) (by decide) 43 19 (by decide) rfl (fun c3 => ?_) (fun c3 => ?_)
        · refine sw_vreturn k_X0_take rfl rfl ?_
          have e : k.toNat = i := by omega
          rw [e] at hQ
          exact hQ
        · refine sw_blk k_X0_take 6 27 [(3, .inl (i : Int)), (0, .inr (.inr 12)), (1, .inr (.inr 22)), (2, .inl k)] [.inl (i : Int), .inr (.inr 22), .inl 0, .inl (i : Int), .inr (.inr 13)] (sw_pf σ 13 (fun j : Nat => max 0 (min (σ 22 j) 99)) i) rfl ?_
          refine sw_iald k_X0_take rfl (i := 22) (n := 60) rfl (by decide) (by omega) (by omega) 28 rfl ?_
          refine sw_blk k_X0_take 1 30 [(3, .inl (i : Int)), (0, .inr (.inr 12)), (1, .inr (.inr 22)), (2, .inl k)] [.inl 99, .inl ((sw_pf σ 13 (fun j : Nat => max 0 (min (σ 22 j) 99)) i) 22 i), .inl 0, .inl (i : Int), .inr (.inr 13)] (sw_pf σ 13 (fun j : Nat => max 0 (min (σ 22 j) 99)) i) rfl ?_
          refine sw_callS k_X0_take rfl cS_J9_min_7cf53 ml_X0_15 ⟨by decide, by decide⟩ [.inl ((sw_pf σ 13 (fun j : Nat => max 0 (min (σ 22 j) 99)) i) 22 i), .inl 99] [.inl 0, .inl (i : Int), .inr (.inr 13)] rfl rfl (Nat.le_of_ble_eq_true rfl) 33 rfl (sp_min (sw_pf σ 13 (fun j : Nat => max 0 (min (σ 22 j) 99)) i) ((sw_pf σ 13 (fun j : Nat => max 0 (min (σ 22 j) 99)) i) 22 i) 99 (by have := hσ 22 i; show sw_g (σ 22 i); exact this) (by decide)) (fun r4 σ5 hq6 => ?_)
          obtain ⟨rfl, rfl⟩ := hq6
          refine sw_blk k_X0_take 0 33 [(3, .inl (i : Int)), (0, .inr (.inr 12)), (1, .inr (.inr 22)), (2, .inl k)] [.inl (min ((sw_pf σ 13 (fun j : Nat => max 0 (min (σ 22 j) 99)) i) 22 i) 99), .inl 0, .inl (i : Int), .inr (.inr 13)] (sw_pf σ 13 (fun j : Nat => max 0 (min (σ 22 j) 99)) i) rfl ?_
          refine sw_callS k_X0_take rfl cS_J9_max_7cf53 ml_X0_21 ⟨by decide, by decide⟩ [.inl 0, .inl (min ((sw_pf σ 13 (fun j : Nat => max 0 (min (σ 22 j) 99)) i) 22 i) 99)] [.inl (i : Int), .inr (.inr 13)] rfl rfl (Nat.le_of_ble_eq_true rfl) 36 rfl (sp_max (sw_pf σ 13 (fun j : Nat => max 0 (min (σ 22 j) 99)) i) 0 (min ((sw_pf σ 13 (fun j : Nat => max 0 (min (σ 22 j) 99)) i) 22 i) 99) (by decide) (by have := hσ 22 i; show sw_g (min (σ 22 i) 99); omega)) (fun r7 σ8 hq9 => ?_)
          obtain ⟨rfl, rfl⟩ := hq9
          refine sw_blk k_X0_take 0 36 [(3, .inl (i : Int)), (0, .inr (.inr 12)), (1, .inr (.inr 22)), (2, .inl k)] [.inl (max 0 (min ((sw_pf σ 13 (fun j : Nat => max 0 (min (σ 22 j) 99)) i) 22 i) 99)), .inl (i : Int), .inr (.inr 13)] (sw_pf σ 13 (fun j : Nat => max 0 (min (σ 22 j) 99)) i) rfl ?_
          refine sw_iast k_X0_take rfl (i := 13) (n := 60) rfl (by decide) (by omega) (by omega) 37 rfl ?_
          refine sw_blk k_X0_take 2 2 [(3, .inl ((i : Int) + 1)), (0, .inr (.inr 12)), (1, .inr (.inr 22)), (2, .inl k)] [] (sw_u (sw_pf σ 13 (fun j : Nat => max 0 (min (σ 22 j) 99)) i) 13 i (max 0 (min ((sw_pf σ 13 (fun j : Nat => max 0 (min (σ 22 j) 99)) i) 22 i) 99))) rfl ?_
          rw [sw_pf_s σ 13 (fun j : Nat => max 0 (min (σ 22 j) 99)) i (by rw [sw_pf_row σ _ _ (by decide)])]
          exact ih (i + 1) (by omega) (by omega)
theorem sp_take3 (σ : sw_S) (hσ : sw_gs σ) (k : Int) (hk : 0 ≤ k ∧ k ≤ 60) : sw_Con sw_ly sw_rho M_X0_take [.inr (.inr 12), .inr (.inr 22), .inl k] σ (fun r σ' => sw_pf σ 13 (fun j : Nat => max 0 (min (σ 22 j) 99)) k.toNat = σ' ∧ r = none) := by
  refine sw_con (by decide) (Nat.le_of_ble_eq_true rfl) ?_
  refine sw_blk k_X0_take 2 2 [(3, .inl 0), (0, .inr (.inr 12)), (1, .inr (.inr 22)), (2, .inl k)] [] σ rfl ?_
  have h := lp_take3 σ hσ k hk (fun r σ' => sw_pf σ 13 (fun j : Nat => max 0 (min (σ 22 j) 99)) k.toNat = σ' ∧ r = none) ⟨rfl, rfl⟩ 62 0 (by omega) (by omega)
  rw [sw_pf_0] at h
  exact h
theorem sp_srenew0 (σ : sw_S) (f k : Int) : sw_Con sw_ly sw_rho M_X4_renew [.inr (.inr 15), .inl f, .inl k] σ (fun r σ' => (sw_fl (sw_u (sw_u (sw_u σ 15 2 f) 15 3 k) 15 1 0) 16 60 0) = σ' ∧ r = none) := by
  refine sw_con (by decide) (Nat.le_of_ble_eq_true rfl) ?_
  refine sw_blk k_X4_renew 12 20 [(0, .inr (.inr 15)), (1, .inl f), (2, .inl k)] [.inl 0, .inr (.inr 16)] (sw_u (sw_u (sw_u σ 15 2 f) 15 3 k) 15 1 0) rfl ?_
  refine sw_callS k_X4_renew rfl cS_J7_fill_53178 ml_X4_26 ⟨by decide, by decide⟩ [.inr (.inr 16), .inl 0] [] rfl rfl (Nat.le_of_ble_eq_true rfl) 23 rfl (sp_fill (sw_u (sw_u (sw_u σ 15 2 f) 15 3 k) 15 1 0) 16 60 0 rfl (by decide)) (fun r1 σ2 hq3 => ?_)
  obtain ⟨rfl, rfl⟩ := hq3
  refine sw_blk k_X4_renew 0 23 [(0, .inr (.inr 15)), (1, .inl f), (2, .inl k)] [] (sw_fl (sw_u (sw_u (sw_u σ 15 2 f) 15 3 k) 15 1 0) 16 60 0) rfl ?_
  refine sw_vreturn k_X4_renew rfl rfl ?_
  exact ⟨rfl, rfl⟩
theorem sp_store0 (σ : sw_S) (hσ : sw_gs σ) (i v : Int) (hi : 0 ≤ i ∧ i < 60) (hf : 0 ≤ σ 15 2 ∧ σ 15 2 ≤ 2) : sw_Con sw_ly sw_rho M_X4_store [.inr (.inr 15), .inl i, .inl v] σ (fun r σ' => (sw_u σ 16 i.toNat (if σ 15 2 = 0 then sw_b v else if σ 15 2 = 1 then sw_h v else v)) = σ' ∧ r = none) := by
  refine sw_con (by decide) (Nat.le_of_ble_eq_true rfl) ?_
  refine sw_blk k_X4_store 2 4 [(0, .inr (.inr 15)), (1, .inl i), (2, .inl v)] [.inl (σ 15 2)] σ rfl ?_
  have h3 : σ 15 2 = 0 ∨ σ 15 2 = 1 ∨ σ 15 2 = 2 := by omega
  rcases h3 with h3 | h3 | h3 <;> rw [h3]
  · refine sw_look k_X4_store rfl (by decide) (by decide) rfl 32 (by decide) ?_
    refine sw_blk k_X4_store 5 39 [(0, .inr (.inr 15)), (1, .inl i), (2, .inl v)] [.inl (sw_b v), .inl i, .inr (.inr 16)] σ rfl ?_
    refine sw_iast k_X4_store rfl (i := 16) (n := 60) rfl (by decide) (by omega) (by omega) 40 rfl ?_
    refine sw_blk k_X4_store 1 61 [(0, .inr (.inr 15)), (1, .inl i), (2, .inl v)] [] (sw_u σ 16 i.toNat (sw_b v)) rfl ?_
    refine sw_vreturn k_X4_store rfl rfl ?_
    exact ⟨rfl, rfl⟩
  · refine sw_look k_X4_store rfl (by decide) (by decide) rfl 43 (by decide) ?_
    refine sw_blk k_X4_store 5 50 [(0, .inr (.inr 15)), (1, .inl i), (2, .inl v)] [.inl (sw_h v), .inl i, .inr (.inr 16)] σ rfl ?_
    refine sw_iast k_X4_store rfl (i := 16) (n := 60) rfl (by decide) (by omega) (by omega) 51 rfl ?_
    refine sw_blk k_X4_store 1 61 [(0, .inr (.inr 15)), (1, .inl i), (2, .inl v)] [] (sw_u σ 16 i.toNat (sw_h v)) rfl ?_
    refine sw_vreturn k_X4_store rfl rfl ?_
    exact ⟨rfl, rfl⟩
  · refine sw_look k_X4_store rfl (by decide) (by decide) rfl 54 (by decide) ?_
    refine sw_blk k_X4_store 4 60 [(0, .inr (.inr 15)), (1, .inl i), (2, .inl v)] [.inl v, .inl i, .inr (.inr 16)] σ rfl ?_
    refine sw_iast k_X4_store rfl (i := 16) (n := 60) rfl (by decide) (by omega) (by omega) 61 rfl ?_
    refine sw_blk k_X4_store 0 61 [(0, .inr (.inr 15)), (1, .inl i), (2, .inl v)] [] (sw_u σ 16 i.toNat v) rfl ?_
    refine sw_vreturn k_X4_store rfl rfl ?_
    exact ⟨rfl, rfl⟩
theorem sp_wrong0 (σ : sw_S) (hσ : sw_gs σ) (f i : Int) (gf : sw_g f) (gi : sw_g i) (hs0 : 0 ≤ σ 15 3) (hs1 : σ 15 3 ≤ 60) : sw_Con sw_ly sw_rho M_X7_wrongOfItem [.inr (.inr 15), .inl f, .inl i] σ (fun r σ' => σ = σ' ∧ r = some (.inl ((if σ 15 1 = 0 then (if σ 15 2 = f then (if 0 ≤ i ∧ i < σ 15 3 then 0 else 2) else 3) else 1)))) := by
  refine sw_con (by decide) (Nat.le_of_ble_eq_true rfl) ?_
  refine sw_blk k_X7_wrongOfItem 2 4 [(0, .inr (.inr 15)), (1, .inl f), (2, .inl i)] [.inl (σ 15 1)] σ rfl ?_
  refine sw_if_eq k_X7_wrongOfItem rfl (hσ 15 _) 9 7 (by decide) rfl (fun c1 => ?_) (fun c1 => ?_)
  · refine sw_blk k_X7_wrongOfItem 3 14 [(0, .inr (.inr 15)), (1, .inl f), (2, .inl i)] [.inl f, .inl (σ 15 2)] σ rfl ?_
    refine sw_icmp_eq k_X7_wrongOfItem rfl (hσ 15 _) (by omega) 19 17 (by decide) rfl (fun c2 => ?_) (fun c2 => ?_)
    · refine sw_blk k_X7_wrongOfItem 3 22 [(0, .inr (.inr 15)), (1, .inl f), (2, .inl i)] [.inl 1, .inl i, .inr (.inr 15)] σ rfl ?_
      refine sw_callV k_X7_wrongOfItem rfl cV_X4_hasItems ml_X7_251 ⟨by decide, by decide⟩ 15 rfl rfl [.inl i, .inl 1] [] rfl rfl (Nat.le_of_ble_eq_true rfl) 25 rfl (sp_hasItems0 σ i 1 (by omega) (by decide) (by omega) (by omega)) (fun r4 σ5 hq6 => ?_)
      obtain ⟨rfl, ⟨p3, rfl⟩ | ⟨p3, rfl⟩⟩ := hq6
      · refine sw_blk k_X7_wrongOfItem 0 25 [(0, .inr (.inr 15)), (1, .inl f), (2, .inl i)] [.inl 1] σ rfl ?_
        refine sw_if_eq k_X7_wrongOfItem rfl (by decide) 32 28 (by decide) rfl (fun c => absurd c (by decide)) (fun _ => ?_)
        refine sw_blk k_X7_wrongOfItem 2 33 [(0, .inr (.inr 15)), (1, .inl f), (2, .inl i)] [.inl 0] σ rfl ?_
        refine sw_ireturn k_X7_wrongOfItem rfl rfl ?_
        exact ⟨rfl, congrArg (fun q : Int => some (Sum.inl q)) (show (0 : Int) = (if σ 15 1 = 0 then (if σ 15 2 = f then (if 0 ≤ i ∧ i < σ 15 3 then 0 else 2) else 3) else 1) from by omega)⟩
      · refine sw_blk k_X7_wrongOfItem 0 25 [(0, .inr (.inr 15)), (1, .inl f), (2, .inl i)] [.inl 0] σ rfl ?_
        refine sw_if_eq k_X7_wrongOfItem rfl (by decide) 32 28 (by decide) rfl (fun _ => ?_) (fun c => absurd (by decide) c)
        refine sw_blk k_X7_wrongOfItem 1 33 [(0, .inr (.inr 15)), (1, .inl f), (2, .inl i)] [.inl 2] σ rfl ?_
        refine sw_ireturn k_X7_wrongOfItem rfl rfl ?_
        exact ⟨rfl, congrArg (fun q : Int => some (Sum.inl q)) (show (2 : Int) = (if σ 15 1 = 0 then (if σ 15 2 = f then (if 0 ≤ i ∧ i < σ 15 3 then 0 else 2) else 3) else 1) from by omega)⟩
    · refine sw_blk k_X7_wrongOfItem 1 18 [(0, .inr (.inr 15)), (1, .inl f), (2, .inl i)] [.inl 3] σ rfl ?_
      refine sw_ireturn k_X7_wrongOfItem rfl rfl ?_
      exact ⟨rfl, congrArg (fun q : Int => some (Sum.inl q)) (show (3 : Int) = (if σ 15 1 = 0 then (if σ 15 2 = f then (if 0 ≤ i ∧ i < σ 15 3 then 0 else 2) else 3) else 1) from by omega)⟩
  · refine sw_blk k_X7_wrongOfItem 1 8 [(0, .inr (.inr 15)), (1, .inl f), (2, .inl i)] [.inl 1] σ rfl ?_
    refine sw_ireturn k_X7_wrongOfItem rfl rfl ?_
    exact ⟨rfl, congrArg (fun q : Int => some (Sum.inl q)) (show (1 : Int) = (if σ 15 1 = 0 then (if σ 15 2 = f then (if 0 ≤ i ∧ i < σ 15 3 then 0 else 2) else 3) else 1) from by omega)⟩
theorem sp_srenew1 (σ : sw_S) (f k : Int) : sw_Con sw_ly sw_rho M_X4_renew [.inr (.inr 17), .inl f, .inl k] σ (fun r σ' => (sw_fl (sw_u (sw_u (sw_u σ 17 2 f) 17 3 k) 17 1 0) 18 60 0) = σ' ∧ r = none) := by
  refine sw_con (by decide) (Nat.le_of_ble_eq_true rfl) ?_
  refine sw_blk k_X4_renew 12 20 [(0, .inr (.inr 17)), (1, .inl f), (2, .inl k)] [.inl 0, .inr (.inr 18)] (sw_u (sw_u (sw_u σ 17 2 f) 17 3 k) 17 1 0) rfl ?_
  refine sw_callS k_X4_renew rfl cS_J7_fill_53178 ml_X4_26 ⟨by decide, by decide⟩ [.inr (.inr 18), .inl 0] [] rfl rfl (Nat.le_of_ble_eq_true rfl) 23 rfl (sp_fill (sw_u (sw_u (sw_u σ 17 2 f) 17 3 k) 17 1 0) 18 60 0 rfl (by decide)) (fun r1 σ2 hq3 => ?_)
  obtain ⟨rfl, rfl⟩ := hq3
  refine sw_blk k_X4_renew 0 23 [(0, .inr (.inr 17)), (1, .inl f), (2, .inl k)] [] (sw_fl (sw_u (sw_u (sw_u σ 17 2 f) 17 3 k) 17 1 0) 18 60 0) rfl ?_
  refine sw_vreturn k_X4_renew rfl rfl ?_
  exact ⟨rfl, rfl⟩
theorem sp_store1 (σ : sw_S) (hσ : sw_gs σ) (i v : Int) (hi : 0 ≤ i ∧ i < 60) (hf : 0 ≤ σ 17 2 ∧ σ 17 2 ≤ 2) : sw_Con sw_ly sw_rho M_X4_store [.inr (.inr 17), .inl i, .inl v] σ (fun r σ' => (sw_u σ 18 i.toNat (if σ 17 2 = 0 then sw_b v else if σ 17 2 = 1 then sw_h v else v)) = σ' ∧ r = none) := by
  refine sw_con (by decide) (Nat.le_of_ble_eq_true rfl) ?_
  refine sw_blk k_X4_store 2 4 [(0, .inr (.inr 17)), (1, .inl i), (2, .inl v)] [.inl (σ 17 2)] σ rfl ?_
  have h3 : σ 17 2 = 0 ∨ σ 17 2 = 1 ∨ σ 17 2 = 2 := by omega
  rcases h3 with h3 | h3 | h3 <;> rw [h3]
  · refine sw_look k_X4_store rfl (by decide) (by decide) rfl 32 (by decide) ?_
    refine sw_blk k_X4_store 5 39 [(0, .inr (.inr 17)), (1, .inl i), (2, .inl v)] [.inl (sw_b v), .inl i, .inr (.inr 18)] σ rfl ?_
    refine sw_iast k_X4_store rfl (i := 18) (n := 60) rfl (by decide) (by omega) (by omega) 40 rfl ?_
    refine sw_blk k_X4_store 1 61 [(0, .inr (.inr 17)), (1, .inl i), (2, .inl v)] [] (sw_u σ 18 i.toNat (sw_b v)) rfl ?_
    refine sw_vreturn k_X4_store rfl rfl ?_
    exact ⟨rfl, rfl⟩
  · refine sw_look k_X4_store rfl (by decide) (by decide) rfl 43 (by decide) ?_
    refine sw_blk k_X4_store 5 50 [(0, .inr (.inr 17)), (1, .inl i), (2, .inl v)] [.inl (sw_h v), .inl i, .inr (.inr 18)] σ rfl ?_
    refine sw_iast k_X4_store rfl (i := 18) (n := 60) rfl (by decide) (by omega) (by omega) 51 rfl ?_
    refine sw_blk k_X4_store 1 61 [(0, .inr (.inr 17)), (1, .inl i), (2, .inl v)] [] (sw_u σ 18 i.toNat (sw_h v)) rfl ?_
    refine sw_vreturn k_X4_store rfl rfl ?_
    exact ⟨rfl, rfl⟩
  · refine sw_look k_X4_store rfl (by decide) (by decide) rfl 54 (by decide) ?_
    refine sw_blk k_X4_store 4 60 [(0, .inr (.inr 17)), (1, .inl i), (2, .inl v)] [.inl v, .inl i, .inr (.inr 18)] σ rfl ?_
    refine sw_iast k_X4_store rfl (i := 18) (n := 60) rfl (by decide) (by omega) (by omega) 61 rfl ?_
    refine sw_blk k_X4_store 0 61 [(0, .inr (.inr 17)), (1, .inl i), (2, .inl v)] [] (sw_u σ 18 i.toNat v) rfl ?_
    refine sw_vreturn k_X4_store rfl rfl ?_
    exact ⟨rfl, rfl⟩
theorem sp_wrong1 (σ : sw_S) (hσ : sw_gs σ) (f i : Int) (gf : sw_g f) (gi : sw_g i) (hs0 : 0 ≤ σ 17 3) (hs1 : σ 17 3 ≤ 60) : sw_Con sw_ly sw_rho M_X7_wrongOfItem [.inr (.inr 17), .inl f, .inl i] σ (fun r σ' => σ = σ' ∧ r = some (.inl ((if σ 17 1 = 0 then (if σ 17 2 = f then (if 0 ≤ i ∧ i < σ 17 3 then 0 else 2) else 3) else 1)))) := by
  refine sw_con (by decide) (Nat.le_of_ble_eq_true rfl) ?_
  refine sw_blk k_X7_wrongOfItem 2 4 [(0, .inr (.inr 17)), (1, .inl f), (2, .inl i)] [.inl (σ 17 1)] σ rfl ?_
  refine sw_if_eq k_X7_wrongOfItem rfl (hσ 17 _) 9 7 (by decide) rfl (fun c1 => ?_) (fun c1 => ?_)
  · refine sw_blk k_X7_wrongOfItem 3 14 [(0, .inr (.inr 17)), (1, .inl f), (2, .inl i)] [.inl f, .inl (σ 17 2)] σ rfl ?_
    refine sw_icmp_eq k_X7_wrongOfItem rfl (hσ 17 _) (by omega) 19 17 (by decide) rfl (fun c2 => ?_) (fun c2 => ?_)
    · refine sw_blk k_X7_wrongOfItem 3 22 [(0, .inr (.inr 17)), (1, .inl f), (2, .inl i)] [.inl 1, .inl i, .inr (.inr 17)] σ rfl ?_
      refine sw_callV k_X7_wrongOfItem rfl cV_X4_hasItems ml_X7_251 ⟨by decide, by decide⟩ 17 rfl rfl [.inl i, .inl 1] [] rfl rfl (Nat.le_of_ble_eq_true rfl) 25 rfl (sp_hasItems1 σ i 1 (by omega) (by decide) (by omega) (by omega)) (fun r4 σ5 hq6 => ?_)
      obtain ⟨rfl, ⟨p3, rfl⟩ | ⟨p3, rfl⟩⟩ := hq6
      · refine sw_blk k_X7_wrongOfItem 0 25 [(0, .inr (.inr 17)), (1, .inl f), (2, .inl i)] [.inl 1] σ rfl ?_
        refine sw_if_eq k_X7_wrongOfItem rfl (by decide) 32 28 (by decide) rfl (fun c => absurd c (by decide)) (fun _ => ?_)
        refine sw_blk k_X7_wrongOfItem 2 33 [(0, .inr (.inr 17)), (1, .inl f), (2, .inl i)] [.inl 0] σ rfl ?_
        refine sw_ireturn k_X7_wrongOfItem rfl rfl ?_
        exact ⟨rfl, congrArg (fun q : Int => some (Sum.inl q)) (show (0 : Int) = (if σ 17 1 = 0 then (if σ 17 2 = f then (if 0 ≤ i ∧ i < σ 17 3 then 0 else 2) else 3) else 1) from by omega)⟩
      · refine sw_blk k_X7_wrongOfItem 0 25 [(0, .inr (.inr 17)), (1, .inl f), (2, .inl i)] [.inl 0] σ rfl ?_
        refine sw_if_eq k_X7_wrongOfItem rfl (by decide) 32 28 (by decide) rfl (fun _ => ?_) (fun c => absurd (by decide) c)
        refine sw_blk k_X7_wrongOfItem 1 33 [(0, .inr (.inr 17)), (1, .inl f), (2, .inl i)] [.inl 2] σ rfl ?_
        refine sw_ireturn k_X7_wrongOfItem rfl rfl ?_
        exact ⟨rfl, congrArg (fun q : Int => some (Sum.inl q)) (show (2 : Int) = (if σ 17 1 = 0 then (if σ 17 2 = f then (if 0 ≤ i ∧ i < σ 17 3 then 0 else 2) else 3) else 1) from by omega)⟩
    · refine sw_blk k_X7_wrongOfItem 1 18 [(0, .inr (.inr 17)), (1, .inl f), (2, .inl i)] [.inl 3] σ rfl ?_
      refine sw_ireturn k_X7_wrongOfItem rfl rfl ?_
      exact ⟨rfl, congrArg (fun q : Int => some (Sum.inl q)) (show (3 : Int) = (if σ 17 1 = 0 then (if σ 17 2 = f then (if 0 ≤ i ∧ i < σ 17 3 then 0 else 2) else 3) else 1) from by omega)⟩
  · refine sw_blk k_X7_wrongOfItem 1 8 [(0, .inr (.inr 17)), (1, .inl f), (2, .inl i)] [.inl 1] σ rfl ?_
    refine sw_ireturn k_X7_wrongOfItem rfl rfl ?_
    exact ⟨rfl, congrArg (fun q : Int => some (Sum.inl q)) (show (1 : Int) = (if σ 17 1 = 0 then (if σ 17 2 = f then (if 0 ≤ i ∧ i < σ 17 3 then 0 else 2) else 3) else 1) from by omega)⟩
theorem sp_srenew2 (σ : sw_S) (f k : Int) : sw_Con sw_ly sw_rho M_X4_renew [.inr (.inr 19), .inl f, .inl k] σ (fun r σ' => (sw_fl (sw_u (sw_u (sw_u σ 19 2 f) 19 3 k) 19 1 0) 20 60 0) = σ' ∧ r = none) := by
  refine sw_con (by decide) (Nat.le_of_ble_eq_true rfl) ?_
  refine sw_blk k_X4_renew 12 20 [(0, .inr (.inr 19)), (1, .inl f), (2, .inl k)] [.inl 0, .inr (.inr 20)] (sw_u (sw_u (sw_u σ 19 2 f) 19 3 k) 19 1 0) rfl ?_
  refine sw_callS k_X4_renew rfl cS_J7_fill_53178 ml_X4_26 ⟨by decide, by decide⟩ [.inr (.inr 20), .inl 0] [] rfl rfl (Nat.le_of_ble_eq_true rfl) 23 rfl (sp_fill (sw_u (sw_u (sw_u σ 19 2 f) 19 3 k) 19 1 0) 20 60 0 rfl (by decide)) (fun r1 σ2 hq3 => ?_)
  obtain ⟨rfl, rfl⟩ := hq3
  refine sw_blk k_X4_renew 0 23 [(0, .inr (.inr 19)), (1, .inl f), (2, .inl k)] [] (sw_fl (sw_u (sw_u (sw_u σ 19 2 f) 19 3 k) 19 1 0) 20 60 0) rfl ?_
  refine sw_vreturn k_X4_renew rfl rfl ?_
  exact ⟨rfl, rfl⟩
theorem sp_store2 (σ : sw_S) (hσ : sw_gs σ) (i v : Int) (hi : 0 ≤ i ∧ i < 60) (hf : 0 ≤ σ 19 2 ∧ σ 19 2 ≤ 2) : sw_Con sw_ly sw_rho M_X4_store [.inr (.inr 19), .inl i, .inl v] σ (fun r σ' => (sw_u σ 20 i.toNat (if σ 19 2 = 0 then sw_b v else if σ 19 2 = 1 then sw_h v else v)) = σ' ∧ r = none) := by
  refine sw_con (by decide) (Nat.le_of_ble_eq_true rfl) ?_
  refine sw_blk k_X4_store 2 4 [(0, .inr (.inr 19)), (1, .inl i), (2, .inl v)] [.inl (σ 19 2)] σ rfl ?_
  have h3 : σ 19 2 = 0 ∨ σ 19 2 = 1 ∨ σ 19 2 = 2 := by omega
  rcases h3 with h3 | h3 | h3 <;> rw [h3]
  · refine sw_look k_X4_store rfl (by decide) (by decide) rfl 32 (by decide) ?_
    refine sw_blk k_X4_store 5 39 [(0, .inr (.inr 19)), (1, .inl i), (2, .inl v)] [.inl (sw_b v), .inl i, .inr (.inr 20)] σ rfl ?_
    refine sw_iast k_X4_store rfl (i := 20) (n := 60) rfl (by decide) (by omega) (by omega) 40 rfl ?_
    refine sw_blk k_X4_store 1 61 [(0, .inr (.inr 19)), (1, .inl i), (2, .inl v)] [] (sw_u σ 20 i.toNat (sw_b v)) rfl ?_
    refine sw_vreturn k_X4_store rfl rfl ?_
    exact ⟨rfl, rfl⟩
  · refine sw_look k_X4_store rfl (by decide) (by decide) rfl 43 (by decide) ?_
    refine sw_blk k_X4_store 5 50 [(0, .inr (.inr 19)), (1, .inl i), (2, .inl v)] [.inl (sw_h v), .inl i, .inr (.inr 20)] σ rfl ?_
    refine sw_iast k_X4_store rfl (i := 20) (n := 60) rfl (by decide) (by omega) (by omega) 51 rfl ?_
    refine sw_blk k_X4_store 1 61 [(0, .inr (.inr 19)), (1, .inl i), (2, .inl v)] [] (sw_u σ 20 i.toNat (sw_h v)) rfl ?_
    refine sw_vreturn k_X4_store rfl rfl ?_
    exact ⟨rfl, rfl⟩
  · refine sw_look k_X4_store rfl (by decide) (by decide) rfl 54 (by decide) ?_
    refine sw_blk k_X4_store 4 60 [(0, .inr (.inr 19)), (1, .inl i), (2, .inl v)] [.inl v, .inl i, .inr (.inr 20)] σ rfl ?_
    refine sw_iast k_X4_store rfl (i := 20) (n := 60) rfl (by decide) (by omega) (by omega) 61 rfl ?_
    refine sw_blk k_X4_store 0 61 [(0, .inr (.inr 19)), (1, .inl i), (2, .inl v)] [] (sw_u σ 20 i.toNat v) rfl ?_
    refine sw_vreturn k_X4_store rfl rfl ?_
    exact ⟨rfl, rfl⟩
theorem sp_wrong2 (σ : sw_S) (hσ : sw_gs σ) (f i : Int) (gf : sw_g f) (gi : sw_g i) (hs0 : 0 ≤ σ 19 3) (hs1 : σ 19 3 ≤ 60) : sw_Con sw_ly sw_rho M_X7_wrongOfItem [.inr (.inr 19), .inl f, .inl i] σ (fun r σ' => σ = σ' ∧ r = some (.inl ((if σ 19 1 = 0 then (if σ 19 2 = f then (if 0 ≤ i ∧ i < σ 19 3 then 0 else 2) else 3) else 1)))) := by
  refine sw_con (by decide) (Nat.le_of_ble_eq_true rfl) ?_
  refine sw_blk k_X7_wrongOfItem 2 4 [(0, .inr (.inr 19)), (1, .inl f), (2, .inl i)] [.inl (σ 19 1)] σ rfl ?_
  refine sw_if_eq k_X7_wrongOfItem rfl (hσ 19 _) 9 7 (by decide) rfl (fun c1 => ?_) (fun c1 => ?_)
  · refine sw_blk k_X7_wrongOfItem 3 14 [(0, .inr (.inr 19)), (1, .inl f), (2, .inl i)] [.inl f, .inl (σ 19 2)] σ rfl ?_
    refine sw_icmp_eq k_X7_wrongOfItem rfl (hσ 19 _) (by omega) 19 17 (by decide) rfl (fun c2 => ?_) (fun c2 => ?_)
    · refine sw_blk k_X7_wrongOfItem 3 22 [(0, .inr (.inr 19)), (1, .inl f), (2, .inl i)] [.inl 1, .inl i, .inr (.inr 19)] σ rfl ?_
      refine sw_callV k_X7_wrongOfItem rfl cV_X4_hasItems ml_X7_251 ⟨by decide, by decide⟩ 19 rfl rfl [.inl i, .inl 1] [] rfl rfl (Nat.le_of_ble_eq_true rfl) 25 rfl (sp_hasItems2 σ i 1 (by omega) (by decide) (by omega) (by omega)) (fun r4 σ5 hq6 => ?_)
      obtain ⟨rfl, ⟨p3, rfl⟩ | ⟨p3, rfl⟩⟩ := hq6
      · refine sw_blk k_X7_wrongOfItem 0 25 [(0, .inr (.inr 19)), (1, .inl f), (2, .inl i)] [.inl 1] σ rfl ?_
        refine sw_if_eq k_X7_wrongOfItem rfl (by decide) 32 28 (by decide) rfl (fun c => absurd c (by decide)) (fun _ => ?_)
        refine sw_blk k_X7_wrongOfItem 2 33 [(0, .inr (.inr 19)), (1, .inl f), (2, .inl i)] [.inl 0] σ rfl ?_
        refine sw_ireturn k_X7_wrongOfItem rfl rfl ?_
        exact ⟨rfl, congrArg (fun q : Int => some (Sum.inl q)) (show (0 : Int) = (if σ 19 1 = 0 then (if σ 19 2 = f then (if 0 ≤ i ∧ i < σ 19 3 then 0 else 2) else 3) else 1) from by omega)⟩
      · refine sw_blk k_X7_wrongOfItem 0 25 [(0, .inr (.inr 19)), (1, .inl f), (2, .inl i)] [.inl 0] σ rfl ?_
        refine sw_if_eq k_X7_wrongOfItem rfl (by decide) 32 28 (by decide) rfl (fun _ => ?_) (fun c => absurd (by decide) c)
        refine sw_blk k_X7_wrongOfItem 1 33 [(0, .inr (.inr 19)), (1, .inl f), (2, .inl i)] [.inl 2] σ rfl ?_
        refine sw_ireturn k_X7_wrongOfItem rfl rfl ?_
        exact ⟨rfl, congrArg (fun q : Int => some (Sum.inl q)) (show (2 : Int) = (if σ 19 1 = 0 then (if σ 19 2 = f then (if 0 ≤ i ∧ i < σ 19 3 then 0 else 2) else 3) else 1) from by omega)⟩
    · refine sw_blk k_X7_wrongOfItem 1 18 [(0, .inr (.inr 19)), (1, .inl f), (2, .inl i)] [.inl 3] σ rfl ?_
      refine sw_ireturn k_X7_wrongOfItem rfl rfl ?_
      exact ⟨rfl, congrArg (fun q : Int => some (Sum.inl q)) (show (3 : Int) = (if σ 19 1 = 0 then (if σ 19 2 = f then (if 0 ≤ i ∧ i < σ 19 3 then 0 else 2) else 3) else 1) from by omega)⟩
  · refine sw_blk k_X7_wrongOfItem 1 8 [(0, .inr (.inr 19)), (1, .inl f), (2, .inl i)] [.inl 1] σ rfl ?_
    refine sw_ireturn k_X7_wrongOfItem rfl rfl ?_
    exact ⟨rfl, congrArg (fun q : Int => some (Sum.inl q)) (show (1 : Int) = (if σ 19 1 = 0 then (if σ 19 2 = f then (if 0 ≤ i ∧ i < σ 19 3 then 0 else 2) else 3) else 1) from by omega)⟩
theorem sp_srenew3 (σ : sw_S) (f k : Int) : sw_Con sw_ly sw_rho M_X4_renew [.inr (.inr 21), .inl f, .inl k] σ (fun r σ' => (sw_fl (sw_u (sw_u (sw_u σ 21 2 f) 21 3 k) 21 1 0) 22 60 0) = σ' ∧ r = none) := by
  refine sw_con (by decide) (Nat.le_of_ble_eq_true rfl) ?_
  refine sw_blk k_X4_renew 12 20 [(0, .inr (.inr 21)), (1, .inl f), (2, .inl k)] [.inl 0, .inr (.inr 22)] (sw_u (sw_u (sw_u σ 21 2 f) 21 3 k) 21 1 0) rfl ?_
  refine sw_callS k_X4_renew rfl cS_J7_fill_53178 ml_X4_26 ⟨by decide, by decide⟩ [.inr (.inr 22), .inl 0] [] rfl rfl (Nat.le_of_ble_eq_true rfl) 23 rfl (sp_fill (sw_u (sw_u (sw_u σ 21 2 f) 21 3 k) 21 1 0) 22 60 0 rfl (by decide)) (fun r1 σ2 hq3 => ?_)
  obtain ⟨rfl, rfl⟩ := hq3
  refine sw_blk k_X4_renew 0 23 [(0, .inr (.inr 21)), (1, .inl f), (2, .inl k)] [] (sw_fl (sw_u (sw_u (sw_u σ 21 2 f) 21 3 k) 21 1 0) 22 60 0) rfl ?_
  refine sw_vreturn k_X4_renew rfl rfl ?_
  exact ⟨rfl, rfl⟩
theorem sp_store3 (σ : sw_S) (hσ : sw_gs σ) (i v : Int) (hi : 0 ≤ i ∧ i < 60) (hf : 0 ≤ σ 21 2 ∧ σ 21 2 ≤ 2) : sw_Con sw_ly sw_rho M_X4_store [.inr (.inr 21), .inl i, .inl v] σ (fun r σ' => (sw_u σ 22 i.toNat (if σ 21 2 = 0 then sw_b v else if σ 21 2 = 1 then sw_h v else v)) = σ' ∧ r = none) := by
  refine sw_con (by decide) (Nat.le_of_ble_eq_true rfl) ?_
  refine sw_blk k_X4_store 2 4 [(0, .inr (.inr 21)), (1, .inl i), (2, .inl v)] [.inl (σ 21 2)] σ rfl ?_
  have h3 : σ 21 2 = 0 ∨ σ 21 2 = 1 ∨ σ 21 2 = 2 := by omega
  rcases h3 with h3 | h3 | h3 <;> rw [h3]
  · refine sw_look k_X4_store rfl (by decide) (by decide) rfl 32 (by decide) ?_
    refine sw_blk k_X4_store 5 39 [(0, .inr (.inr 21)), (1, .inl i), (2, .inl v)] [.inl (sw_b v), .inl i, .inr (.inr 22)] σ rfl ?_
    refine sw_iast k_X4_store rfl (i := 22) (n := 60) rfl (by decide) (by omega) (by omega) 40 rfl ?_
    refine sw_blk k_X4_store 1 61 [(0, .inr (.inr 21)), (1, .inl i), (2, .inl v)] [] (sw_u σ 22 i.toNat (sw_b v)) rfl ?_
    refine sw_vreturn k_X4_store rfl rfl ?_
    exact ⟨rfl, rfl⟩
  · refine sw_look k_X4_store rfl (by decide) (by decide) rfl 43 (by decide) ?_
    refine sw_blk k_X4_store 5 50 [(0, .inr (.inr 21)), (1, .inl i), (2, .inl v)] [.inl (sw_h v), .inl i, .inr (.inr 22)] σ rfl ?_
    refine sw_iast k_X4_store rfl (i := 22) (n := 60) rfl (by decide) (by omega) (by omega) 51 rfl ?_
    refine sw_blk k_X4_store 1 61 [(0, .inr (.inr 21)), (1, .inl i), (2, .inl v)] [] (sw_u σ 22 i.toNat (sw_h v)) rfl ?_
    refine sw_vreturn k_X4_store rfl rfl ?_
    exact ⟨rfl, rfl⟩
  · refine sw_look k_X4_store rfl (by decide) (by decide) rfl 54 (by decide) ?_
    refine sw_blk k_X4_store 4 60 [(0, .inr (.inr 21)), (1, .inl i), (2, .inl v)] [.inl v, .inl i, .inr (.inr 22)] σ rfl ?_
    refine sw_iast k_X4_store rfl (i := 22) (n := 60) rfl (by decide) (by omega) (by omega) 61 rfl ?_
    refine sw_blk k_X4_store 0 61 [(0, .inr (.inr 21)), (1, .inl i), (2, .inl v)] [] (sw_u σ 22 i.toNat v) rfl ?_
    refine sw_vreturn k_X4_store rfl rfl ?_
    exact ⟨rfl, rfl⟩
theorem sp_wrong3 (σ : sw_S) (hσ : sw_gs σ) (f i : Int) (gf : sw_g f) (gi : sw_g i) (hs0 : 0 ≤ σ 21 3) (hs1 : σ 21 3 ≤ 60) : sw_Con sw_ly sw_rho M_X7_wrongOfItem [.inr (.inr 21), .inl f, .inl i] σ (fun r σ' => σ = σ' ∧ r = some (.inl ((if σ 21 1 = 0 then (if σ 21 2 = f then (if 0 ≤ i ∧ i < σ 21 3 then 0 else 2) else 3) else 1)))) := by
  refine sw_con (by decide) (Nat.le_of_ble_eq_true rfl) ?_
  refine sw_blk k_X7_wrongOfItem 2 4 [(0, .inr (.inr 21)), (1, .inl f), (2, .inl i)] [.inl (σ 21 1)] σ rfl ?_
  refine sw_if_eq k_X7_wrongOfItem rfl (hσ 21 _) 9 7 (by decide) rfl (fun c1 => ?_) (fun c1 => ?_)
  · refine sw_blk k_X7_wrongOfItem 3 14 [(0, .inr (.inr 21)), (1, .inl f), (2, .inl i)] [.inl f, .inl (σ 21 2)] σ rfl ?_
    refine sw_icmp_eq k_X7_wrongOfItem rfl (hσ 21 _) (by omega) 19 17 (by decide) rfl (fun c2 => ?_) (fun c2 => ?_)
    · refine sw_blk k_X7_wrongOfItem 3 22 [(0, .inr (.inr 21)), (1, .inl f), (2, .inl i)] [.inl 1, .inl i, .inr (.inr 21)] σ rfl ?_
      refine sw_callV k_X7_wrongOfItem rfl cV_X4_hasItems ml_X7_251 ⟨by decide, by decide⟩ 21 rfl rfl [.inl i, .inl 1] [] rfl rfl (Nat.le_of_ble_eq_true rfl) 25 rfl (sp_hasItems3 σ i 1 (by omega) (by decide) (by omega) (by omega)) (fun r4 σ5 hq6 => ?_)
      obtain ⟨rfl, ⟨p3, rfl⟩ | ⟨p3, rfl⟩⟩ := hq6
      · refine sw_blk k_X7_wrongOfItem 0 25 [(0, .inr (.inr 21)), (1, .inl f), (2, .inl i)] [.inl 1] σ rfl ?_
        refine sw_if_eq k_X7_wrongOfItem rfl (by decide) 32 28 (by decide) rfl (fun c => absurd c (by decide)) (fun _ => ?_)
        refine sw_blk k_X7_wrongOfItem 2 33 [(0, .inr (.inr 21)), (1, .inl f), (2, .inl i)] [.inl 0] σ rfl ?_
        refine sw_ireturn k_X7_wrongOfItem rfl rfl ?_
        exact ⟨rfl, congrArg (fun q : Int => some (Sum.inl q)) (show (0 : Int) = (if σ 21 1 = 0 then (if σ 21 2 = f then (if 0 ≤ i ∧ i < σ 21 3 then 0 else 2) else 3) else 1) from by omega)⟩
      · refine sw_blk k_X7_wrongOfItem 0 25 [(0, .inr (.inr 21)), (1, .inl f), (2, .inl i)] [.inl 0] σ rfl ?_
        refine sw_if_eq k_X7_wrongOfItem rfl (by decide) 32 28 (by decide) rfl (fun _ => ?_) (fun c => absurd (by decide) c)
        refine sw_blk k_X7_wrongOfItem 1 33 [(0, .inr (.inr 21)), (1, .inl f), (2, .inl i)] [.inl 2] σ rfl ?_
        refine sw_ireturn k_X7_wrongOfItem rfl rfl ?_
        exact ⟨rfl, congrArg (fun q : Int => some (Sum.inl q)) (show (2 : Int) = (if σ 21 1 = 0 then (if σ 21 2 = f then (if 0 ≤ i ∧ i < σ 21 3 then 0 else 2) else 3) else 1) from by omega)⟩
    · refine sw_blk k_X7_wrongOfItem 1 18 [(0, .inr (.inr 21)), (1, .inl f), (2, .inl i)] [.inl 3] σ rfl ?_
      refine sw_ireturn k_X7_wrongOfItem rfl rfl ?_
      exact ⟨rfl, congrArg (fun q : Int => some (Sum.inl q)) (show (3 : Int) = (if σ 21 1 = 0 then (if σ 21 2 = f then (if 0 ≤ i ∧ i < σ 21 3 then 0 else 2) else 3) else 1) from by omega)⟩
  · refine sw_blk k_X7_wrongOfItem 1 8 [(0, .inr (.inr 21)), (1, .inl f), (2, .inl i)] [.inl 1] σ rfl ?_
    refine sw_ireturn k_X7_wrongOfItem rfl rfl ?_
    exact ⟨rfl, congrArg (fun q : Int => some (Sum.inl q)) (show (1 : Int) = (if σ 21 1 = 0 then (if σ 21 2 = f then (if 0 ≤ i ∧ i < σ 21 3 then 0 else 2) else 3) else 1) from by omega)⟩
theorem sp_trips (σ : sw_S) (n c : Int) (hn : 1 ≤ n ∧ n ≤ 500) (hc : 1 ≤ c ∧ c ≤ 50) : sw_Con sw_ly sw_rho M_X7_tripsFor [.inl n, .inl c] σ (fun r σ' => σ = σ' ∧ r = some (.inl ((n + c - 1) / c))) := by
  refine sw_con (by decide) (Nat.le_of_ble_eq_true rfl) ?_
  refine sw_blk k_X7_tripsFor 2 2 [(0, .inl n), (1, .inl c)] [.inl 1, .inl c] σ rfl ?_
  refine sw_icmp_ge k_X7_tripsFor rfl (by omega) (by decide) 9 5 (by decide) rfl (fun c1 => ?_) (fun c1 => ?_)
  · refine sw_blk k_X7_tripsFor 6 15 [(0, .inl n), (1, .inl c)] [.inl c, .inl ((n + c) - 1)] σ rfl ?_
    refine sw_idiv k_X7_tripsFor rfl (by omega) (by omega) (by omega) (by omega) 16 rfl ?_
    refine sw_ireturn k_X7_tripsFor rfl rfl ?_
    exact ⟨rfl, rfl⟩
  · omega
def sw_q0 (l0 wt p c : Int) : Int := (l0 + wt * p + 1) * (10 - c)
def sw_q1 (l1 wt D p c : Int) : Int := (l1 + wt * (D - p) + 1) * (10 + c)
def sw_slp (l0 l1 wt D p c k : Int) : Prop := k * min (sw_q0 l0 wt p c) (sw_q1 l1 wt D p c) < 100 * max (sw_q0 l0 wt p c) (sw_q1 l1 wt D p c)
theorem sw_mulb {x y X Y : Int} (h1 : 0 ≤ x) (h2 : x ≤ X) (h3 : 0 ≤ y) (h4 : y ≤ Y) : 0 ≤ x * y ∧ x * y ≤ X * Y := ⟨Int.mul_nonneg h1 h3, Int.mul_le_mul h2 h4 h3 (by omega)⟩
theorem sw_q0b {l wt p c : Int} (hl : 0 ≤ l ∧ l ≤ 1000) (hw : 0 ≤ wt ∧ wt ≤ 10) (hp : 0 ≤ p ∧ p ≤ 400) (hc : -9 ≤ c ∧ c ≤ 9) : 0 ≤ sw_q0 l wt p c ∧ sw_q0 l wt p c ≤ 95019 := by
  have h1 := sw_mulb hw.1 hw.2 hp.1 hp.2
  have h2 := sw_mulb (x := l + wt * p + 1) (X := 5001) (y := 10 - c) (Y := 19) (by omega) (by omega) (by omega) (by omega)
  unfold sw_q0
  omega
theorem sw_q1b {l wt D p c : Int} (hl : 0 ≤ l ∧ l ≤ 1000) (hw : 0 ≤ wt ∧ wt ≤ 10) (hp : 0 ≤ D - p ∧ D - p ≤ 400) (hc : -9 ≤ c ∧ c ≤ 9) : 0 ≤ sw_q1 l wt D p c ∧ sw_q1 l wt D p c ≤ 95019 := by
  have h1 := sw_mulb hw.1 hw.2 hp.1 hp.2
  have h2 := sw_mulb (x := l + wt * (D - p) + 1) (X := 5001) (y := 10 + c) (Y := 19) (by omega) (by omega) (by omega) (by omega)
  unfold sw_q1
  omega
theorem sp_slipsAt (σ : sw_S) (hl0 : 0 ≤ σ 11 1 ∧ σ 11 1 ≤ 1000) (hl1 : 0 ≤ σ 11 2 ∧ σ 11 2 ≤ 1000) (hwt : 0 ≤ σ 11 3 ∧ σ 11 3 ≤ 10) (hD : 10 ≤ σ 1 0 ∧ σ 1 0 ≤ 400) (p c k : Int) (hp : 0 ≤ p ∧ p ≤ σ 1 0) (hc : -9 ≤ c ∧ c ≤ 9) (hk : 100 ≤ k ∧ k ≤ 401) : sw_Con sw_ly sw_rho M_X2_slipsAt [.inr (.inr 11), .inl p, .inl c, .inl k] σ (fun r σ' => σ = σ' ∧ ((sw_slp (σ 11 1) (σ 11 2) (σ 11 3) (σ 1 0) p c k) ∧ r = some (.inl 1) ∨ ¬ (sw_slp (σ 11 1) (σ 11 2) (σ 11 3) (σ 1 0) p c k) ∧ r = some (.inl 0))) := by
  refine sw_con (by decide) (Nat.le_of_ble_eq_true rfl) ?_
  have b0 := sw_q0b hl0 hwt (p := p) (by omega) hc
  have b1 := sw_q1b (D := σ 1 0) (p := p) hl1 hwt (by omega) hc
  have b2 := sw_mulb (x := k) (X := 401) (y := min (sw_q0 (σ 11 1) (σ 11 3) p c) (sw_q1 (σ 11 2) (σ 11 3) (σ 1 0) p c)) (Y := 95019) (by omega) (by omega) (by omega) (by omega)
  refine sw_blk k_X2_slipsAt 35 54 [(5, .inl ((((σ 11 2) + ((σ 11 3) * ((σ 1 0) - p))) + 1) * (10 + c))), (4, .inl ((((σ 11 1) + ((σ 11 3) * p)) + 1) * (10 - c))), (0, .inr (.inr 11)), (1, .inl p), (2, .inl c), (3, .inl k)] [.inl ((((σ 11 2) + ((σ 11 3) * ((σ 1 0) - p))) + 1) * (10 + c)), .inl ((((σ 11 1) + ((σ 11 3) * p)) + 1) * (10 - c)), .inl 100] σ rfl ?_
  refine sw_callS k_X2_slipsAt rfl cS_J9_max_7cf53 ml_X2_33 ⟨by decide, by decide⟩ [.inl ((((σ 11 1) + ((σ 11 3) * p)) + 1) * (10 - c)), .inl ((((σ 11 2) + ((σ 11 3) * ((σ 1 0) - p))) + 1) * (10 + c))] [.inl 100] rfl rfl (Nat.le_of_ble_eq_true rfl) 57 rfl (sp_max σ (sw_q0 (σ 11 1) (σ 11 3) p c) (sw_q1 (σ 11 2) (σ 11 3) (σ 1 0) p c) (by omega) (by omega)) (fun r1 σ2 hq3 => ?_)
  obtain ⟨rfl, rfl⟩ := hq3
  refine sw_blk k_X2_slipsAt 4 63 [(5, .inl ((((σ 11 2) + ((σ 11 3) * ((σ 1 0) - p))) + 1) * (10 + c))), (4, .inl ((((σ 11 1) + ((σ 11 3) * p)) + 1) * (10 - c))), (0, .inr (.inr 11)), (1, .inl p), (2, .inl c), (3, .inl k)] [.inl ((((σ 11 2) + ((σ 11 3) * ((σ 1 0) - p))) + 1) * (10 + c)), .inl ((((σ 11 1) + ((σ 11 3) * p)) + 1) * (10 - c)), .inl k, .inl (100 * (max (sw_q0 (σ 11 1) (σ 11 3) p c) (sw_q1 (σ 11 2) (σ 11 3) (σ 1 0) p c)))] σ rfl ?_
  refine sw_callS k_X2_slipsAt rfl cS_J9_min_7cf53 ml_X2_39 ⟨by decide, by decide⟩ [.inl ((((σ 11 1) + ((σ 11 3) * p)) + 1) * (10 - c)), .inl ((((σ 11 2) + ((σ 11 3) * ((σ 1 0) - p))) + 1) * (10 + c))] [.inl k, .inl (100 * (max (sw_q0 (σ 11 1) (σ 11 3) p c) (sw_q1 (σ 11 2) (σ 11 3) (σ 1 0) p c)))] rfl rfl (Nat.le_of_ble_eq_true rfl) 66 rfl (sp_min σ (sw_q0 (σ 11 1) (σ 11 3) p c) (sw_q1 (σ 11 2) (σ 11 3) (σ 1 0) p c) (by omega) (by omega)) (fun r4 σ5 hq6 => ?_)
  obtain ⟨rfl, rfl⟩ := hq6
  refine sw_blk k_X2_slipsAt 1 67 [(5, .inl ((((σ 11 2) + ((σ 11 3) * ((σ 1 0) - p))) + 1) * (10 + c))), (4, .inl ((((σ 11 1) + ((σ 11 3) * p)) + 1) * (10 - c))), (0, .inr (.inr 11)), (1, .inl p), (2, .inl c), (3, .inl k)] [.inl (k * (min (sw_q0 (σ 11 1) (σ 11 3) p c) (sw_q1 (σ 11 2) (σ 11 3) (σ 1 0) p c))), .inl (100 * (max (sw_q0 (σ 11 1) (σ 11 3) p c) (sw_q1 (σ 11 2) (σ 11 3) (σ 1 0) p c)))] σ rfl ?_
  refine sw_icmp_le k_X2_slipsAt rfl (by omega) (by omega) 74 70 (by decide) rfl (fun c7 => ?_) (fun c7 => ?_)
  · refine sw_blk k_X2_slipsAt 1 75 [(5, .inl ((((σ 11 2) + ((σ 11 3) * ((σ 1 0) - p))) + 1) * (10 + c))), (4, .inl ((((σ 11 1) + ((σ 11 3) * p)) + 1) * (10 - c))), (0, .inr (.inr 11)), (1, .inl p), (2, .inl c), (3, .inl k)] [.inl 0] σ rfl ?_
    refine sw_zreturn k_X2_slipsAt rfl rfl (by decide) ?_
    exact ⟨rfl, Or.inr ⟨by unfold sw_slp; omega, rfl⟩⟩
  · refine sw_blk k_X2_slipsAt 2 75 [(5, .inl ((((σ 11 2) + ((σ 11 3) * ((σ 1 0) - p))) + 1) * (10 + c))), (4, .inl ((((σ 11 1) + ((σ 11 3) * p)) + 1) * (10 - c))), (0, .inr (.inr 11)), (1, .inl p), (2, .inl c), (3, .inl k)] [.inl 1] σ rfl ?_
    refine sw_zreturn k_X2_slipsAt rfl rfl (by decide) ?_
    exact ⟨rfl, Or.inl ⟨by unfold sw_slp; omega, rfl⟩⟩
