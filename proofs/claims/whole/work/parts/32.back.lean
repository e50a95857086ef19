set_option maxRecDepth 8000 in
theorem lp_back4 (σ : sw_S) (hD : 10 ≤ σ 26 0 ∧ σ 26 0 ≤ 400) (hV : 1 ≤ σ 26 1 ∧ σ 26 1 ≤ 20) (hA : 1 ≤ σ 26 2 ∧ σ 26 2 ≤ 5) (q to fr v : Int) (h : Nat) (hvv : -20 ≤ v ∧ v ≤ 20) (Q : Option sw_Vl → sw_S → Prop) (hQ : ∀ (t : Nat) (σt : sw_S) (ws : Int), (∀ i j, i ≠ 36 → i ≠ 37 → σt i j = σ i j) → sw_gs σt → sw_BF (σ 35) (σ 26 0) (σ 26 1) (σ 26 2) q (σ 26 2 + 1) (σt 36) (σt 37) (h + 1) t → sw_E sw_ly sw_rho M_X8_workBack 271 [(7, .inl ws), (6, .inl fr), (5, .inl v), (4, .inl to), (3, .inl (h : Int)), (2, .inl (t : Int)), (0, .inr (.inr 26)), (1, .inl q)] [] σt Q) : ∀ (n : Nat) (ws : Int) (t : Nat) (σt : sw_S), (∀ i j, i ≠ 36 → i ≠ 37 → σt i j = σ i j) → sw_gs σt → sw_BI (σ 35) (σ 26 0) (σ 26 1) (σ 26 2) q (σt 36) (σt 37) h t fr v ws → (v - σ 26 2 ≤ ws ∧ ws ≤ v + σ 26 2 + 1) → (v + σ 26 2 + 1 - ws).toNat < n → sw_E sw_ly sw_rho M_X8_workBack 167 [(7, .inl ws), (6, .inl fr), (5, .inl v), (4, .inl to), (3, .inl (h : Int)), (2, .inl (t : Int)), (0, .inr (.inr 26)), (1, .inl q)] [] σt Q := by
  intro n
  induction n with
  | zero =>
    intro ws t σt hr hg I hw hn
    omega
  | succ n ih =>
    intro ws t σt hr hg I hw hn
    have e0 := hr 26 0 (by decide) (by decide)
    have e1 := hr 26 1 (by decide) (by decide)
    have e2 := hr 26 2 (by decide) (by decide)
    have e35 : σt 35 = σ 35 := funext fun j => hr 35 j (by decide) (by decide)
    have hfr := I.2.2.2.2.1
    have hgh := I.2.2.1
    have hht := I.2.1
    have htl := sw_BF_t I.1
    have hxx := sw_BI_x I
    have hvd := I.2.2.2.1
    unfold sw_vd at hvd
    refine sw_blk k_X8_workBack 5 176 [(7, .inl ws), (6, .inl fr), (5, .inl v), (4, .inl to), (3, .inl (h : Int)), (2, .inl (t : Int)), (0, .inr (.inr 26)), (1, .inl q)] [.inl (v + (σt 26 2)), .inl ws] σt rfl ?_
    refine sw_icmp_gt k_X8_workBack rfl (by omega) (by omega) 271 179 (by decide) rfl (fun c1 => ?_) (fun c1 => ?_)
    · exact hQ t σt ws hr hg (sw_BI_end (by omega) I (by omega))
    · refine sw_blk k_X8_workBack 6 190 [(7, .inl ws), (6, .inl fr), (5, .inl v), (4, .inl to), (3, .inl (h : Int)), (2, .inl (t : Int)), (0, .inr (.inr 26)), (1, .inl q)] [.inl (σt 26 1), .inl (-(σt 26 1)), .inl ws] σt rfl ?_
      refine sw_callS k_X8_workBack rfl cS_X8_in ml_X8_87 ⟨by decide, by decide⟩ [.inl ws, .inl (-(σt 26 1)), .inl (σt 26 1)] [] rfl rfl (Nat.le_of_ble_eq_true rfl) 193 rfl (sp_in σt ws (-(σt 26 1)) (σt 26 1) (by omega) (by omega) (hg 26 _)) (fun r3 σ4 hq5 => ?_)
      obtain ⟨rfl, ⟨p2, rfl⟩ | ⟨p2, rfl⟩⟩ := hq5
      · refine sw_blk k_X8_workBack 0 193 [(7, .inl ws), (6, .inl fr), (5, .inl v), (4, .inl to), (3, .inl (h : Int)), (2, .inl (t : Int)), (0, .inr (.inr 26)), (1, .inl q)] [.inl 1] σt rfl ?_
        refine sw_if_eq k_X8_workBack rfl (by decide) 265 196 (by decide) rfl (fun c => absurd c (by decide)) (fun _ => ?_)
        refine sw_blk k_X8_workBack 9 211 [(7, .inl ws), (6, .inl fr), (5, .inl v), (4, .inl to), (3, .inl (h : Int)), (2, .inl (t : Int)), (0, .inr (.inr 26)), (1, .inl q)] [.inl (((41 * fr) + ws) + 20), .inr (.inr 36)] σt rfl ?_
        refine sw_iald k_X8_workBack rfl (i := 36) (n := 16441) rfl (by decide) (by omega) (by omega) 212 rfl ?_
        refine sw_blk k_X8_workBack 1 213 [(7, .inl ws), (6, .inl fr), (5, .inl v), (4, .inl to), (3, .inl (h : Int)), (2, .inl (t : Int)), (0, .inr (.inr 26)), (1, .inl q)] [.inl (-1), .inl (σt 36 ((((41 * fr) + ws) + 20).toNat))] σt rfl ?_
        refine sw_icmp_ne k_X8_workBack rfl (hg 36 _) (by decide) 265 216 (by decide) rfl (fun c6 => ?_) (fun c6 => ?_)
        · refine sw_blk k_X8_workBack 2 167 [(7, .inl (ws + 1)), (6, .inl fr), (5, .inl v), (4, .inl to), (3, .inl (h : Int)), (2, .inl (t : Int)), (0, .inr (.inr 26)), (1, .inl q)] [] σt rfl ?_
          first
          | exact ih (ws + 1) t σt hr hg (sw_BI_skip I (by omega)) (by omega) (by omega)
          | exact ih (ws + 1) t σt hr hg (sw_BI_old I (by omega) (show ¬ σt 36 (41 * fr + ws + 20).toNat = -1 by omega)) (by omega) (by omega)
        · have hlen := sw_BF_len (p := fr) (s := ws) (by omega) (by omega) I.1 ⟨I.2.2.2.2.1, by omega⟩ (show σt 36 (41 * fr + ws + 20).toNat = -1 by omega)
          refine sw_blk k_X8_workBack 14 240 [(7, .inl ws), (6, .inl fr), (5, .inl v), (4, .inl to), (3, .inl (h : Int)), (2, .inl (t : Int)), (0, .inr (.inr 26)), (1, .inl q)] [.inl (h : Int), .inr (.inr 37), .inr (.inr 36), .inl (((41 * fr) + ws) + 20), .inr (.inr 36)] σt rfl ?_
          refine sw_iald k_X8_workBack rfl (i := 37) (n := 16441) rfl (by decide) (by omega) (by omega) 241 rfl ?_
          refine sw_blk k_X8_workBack 0 241 [(7, .inl ws), (6, .inl fr), (5, .inl v), (4, .inl to), (3, .inl (h : Int)), (2, .inl (t : Int)), (0, .inr (.inr 26)), (1, .inl q)] [.inl (σt 37 h), .inr (.inr 36), .inl (((41 * fr) + ws) + 20), .inr (.inr 36)] σt rfl ?_
          refine sw_iald k_X8_workBack rfl (i := 36) (n := 16441) rfl (by decide) (by omega) (by omega) 242 rfl ?_
          refine sw_blk k_X8_workBack 2 244 [(7, .inl ws), (6, .inl fr), (5, .inl v), (4, .inl to), (3, .inl (h : Int)), (2, .inl (t : Int)), (0, .inr (.inr 26)), (1, .inl q)] [.inl ((σt 36 ((σt 37 h).toNat)) + 1), .inl (((41 * fr) + ws) + 20), .inr (.inr 36)] σt rfl ?_
          refine sw_iast k_X8_workBack rfl (i := 36) (n := 16441) rfl (by decide) (by omega) (by omega) 245 rfl ?_
          refine sw_blk k_X8_workBack 10 261 [(7, .inl ws), (6, .inl fr), (5, .inl v), (4, .inl to), (3, .inl (h : Int)), (2, .inl (t : Int)), (0, .inr (.inr 26)), (1, .inl q)] [.inl (((41 * fr) + ws) + 20), .inl (t : Int), .inr (.inr 37)] (sw_u σt 36 ((((41 * fr) + ws) + 20).toNat) ((σt 36 ((σt 37 h).toNat)) + 1)) rfl ?_
          refine sw_iast k_X8_workBack rfl (i := 37) (n := 16441) rfl (by decide) (by omega) (by omega) 262 rfl ?_
          refine sw_blk k_X8_workBack 3 167 [(7, .inl (ws + 1)), (2, .inl ((t : Int) + 1)), (6, .inl fr), (5, .inl v), (4, .inl to), (3, .inl (h : Int)), (0, .inr (.inr 26)), (1, .inl q)] [] (sw_u (sw_u σt 36 ((((41 * fr) + ws) + 20).toNat) ((σt 36 ((σt 37 h).toNat)) + 1)) 37 t (((41 * fr) + ws) + 20)) rfl ?_
          refine sw_Lsub [(7, .inl (ws + 1)), (6, .inl fr), (5, .inl v), (4, .inl to), (3, .inl (h : Int)), (2, .inl ((t : Int) + 1)), (0, .inr (.inr 26)), (1, .inl q)] [0, 2, 3, 4, 5, 1, 6, 7] rfl ?_
          have hk : σt 36 (sw_cd fr ws) = -1 := by show σt 36 (41 * fr + ws + 20).toNat = -1; omega
          exact ih (ws + 1) (t + 1) _ (fun i j z1 z2 => by rw [sw_u_row _ _ z2, sw_u_row _ _ z1]; exact hr i j z1 z2) (sw_gs_u (sw_gs_u hg _ _ (by omega)) _ _ (by omega)) (sw_BI_put (by omega) (by omega) I (by omega) hk (by omega) (fun j => sw_u2_f σt _ t _ _ j) (fun j => sw_u2_g σt _ t _ _ j)) (by omega) (by omega)
      · refine sw_blk k_X8_workBack 0 193 [(7, .inl ws), (6, .inl fr), (5, .inl v), (4, .inl to), (3, .inl (h : Int)), (2, .inl (t : Int)), (0, .inr (.inr 26)), (1, .inl q)] [.inl 0] σt rfl ?_
        refine sw_if_eq k_X8_workBack rfl (by decide) 265 196 (by decide) rfl (fun _ => ?_) (fun c => absurd (by decide) c)
        refine sw_blk k_X8_workBack 2 167 [(7, .inl (ws + 1)), (6, .inl fr), (5, .inl v), (4, .inl to), (3, .inl (h : Int)), (2, .inl (t : Int)), (0, .inr (.inr 26)), (1, .inl q)] [] σt rfl ?_
        first
        | exact ih (ws + 1) t σt hr hg (sw_BI_skip I (by omega)) (by omega) (by omega)
        | exact ih (ws + 1) t σt hr hg (sw_BI_old I (by omega) (show ¬ σt 36 (41 * fr + ws + 20).toNat = -1 by omega)) (by omega) (by omega)
set_option maxRecDepth 8000 in
theorem lp_back3 (σ : sw_S) (hD : 10 ≤ σ 26 0 ∧ σ 26 0 ≤ 400) (hV : 1 ≤ σ 26 1 ∧ σ 26 1 ≤ 20) (hA : 1 ≤ σ 26 2 ∧ σ 26 2 ≤ 5) (q : Int) (hq : 0 ≤ q ∧ q ≤ σ 26 0) (Q : Option sw_Vl → sw_S → Prop) (hQ : ∀ σt : sw_S, (∀ i j, i ≠ 36 → i ≠ 37 → σt i j = σ i j) → sw_gs σt → sw_LF (σ 35) (σ 26 0) (σ 26 1) (σ 26 2) q (σt 36) → Q none σt) : ∀ (n : Nat) (h t : Nat) (σt : sw_S), (∀ i j, i ≠ 36 → i ≠ 37 → σt i j = σ i j) → sw_gs σt → sw_BF (σ 35) (σ 26 0) (σ 26 1) (σ 26 2) q (σ 26 2 + 1) (σt 36) (σt 37) h t → 17000 - h < n → sw_E sw_ly sw_rho M_X8_workBack 101 [(3, .inl (h : Int)), (2, .inl (t : Int)), (0, .inr (.inr 26)), (1, .inl q)] [] σt Q := by
  intro n
  induction n with
  | zero =>
    intro h t σt hr hg B hn
    (have := sw_BF_t B; have := B.a8; omega)
  | succ n ih =>
    intro h t σt hr hg B hn
    have e0 := hr 26 0 (by decide) (by decide)
    have e1 := hr 26 1 (by decide) (by decide)
    have e2 := hr 26 2 (by decide) (by decide)
    have e35 : σt 35 = σ 35 := funext fun j => hr 35 j (by decide) (by decide)
    have htl := sw_BF_t B
    have h8 := B.a8
    refine sw_blk k_X8_workBack 2 103 [(3, .inl (h : Int)), (2, .inl (t : Int)), (0, .inr (.inr 26)), (1, .inl q)] [.inl (t : Int), .inl (h : Int)] σt rfl ?_
    refine sw_icmp_ge k_X8_workBack rfl (by omega) (by omega) 277 106 (by decide) rfl (fun c1 => ?_) (fun c1 => ?_)
    · refine sw_vreturn k_X8_workBack rfl rfl ?_
      have e : h = t := by have := B.a8; omega
      subst e
      exact hQ σt hr hg (sw_BF_end (by omega) (by omega) rfl hq B)
    · obtain ⟨p9, s9, b1, b2, b3, b4⟩ := B.a1 h (by omega)
      unfold sw_vd at b1
      have b5 : 0 ≤ σt 37 h ∧ σt 37 h ≤ 16440 := by omega
      have b6 : 0 ≤ σt 37 h / 41 ∧ σt 37 h / 41 ≤ σ 26 0 := by omega
      have b7 : -σ 26 1 ≤ σt 37 h % 41 - 20 ∧ σt 37 h % 41 - 20 ≤ σ 26 1 := by omega
      refine sw_blk k_X8_workBack 3 111 [(3, .inl (h : Int)), (2, .inl (t : Int)), (0, .inr (.inr 26)), (1, .inl q)] [.inl (h : Int), .inr (.inr 37)] σt rfl ?_
      refine sw_iald k_X8_workBack rfl (i := 37) (n := 16441) rfl (by decide) (by omega) (by omega) 112 rfl ?_
      refine sw_blk k_X8_workBack 1 114 [(3, .inl (h : Int)), (2, .inl (t : Int)), (0, .inr (.inr 26)), (1, .inl q)] [.inl 41, .inl (σt 37 h)] σt rfl ?_
      refine sw_idiv k_X8_workBack rfl (hg 37 _) (by decide) (by omega) (by decide) 115 rfl ?_
      refine sw_blk k_X8_workBack 4 122 [(4, .inl ((σt 37 h) / 41)), (3, .inl (h : Int)), (2, .inl (t : Int)), (0, .inr (.inr 26)), (1, .inl q)] [.inl (h : Int), .inr (.inr 37)] σt rfl ?_
      refine sw_iald k_X8_workBack rfl (i := 37) (n := 16441) rfl (by decide) (by omega) (by omega) 123 rfl ?_
      refine sw_blk k_X8_workBack 1 125 [(4, .inl ((σt 37 h) / 41)), (3, .inl (h : Int)), (2, .inl (t : Int)), (0, .inr (.inr 26)), (1, .inl q)] [.inl 41, .inl (σt 37 h)] σt rfl ?_
      refine sw_irem k_X8_workBack rfl (hg 37 _) (by decide) (by omega) (by decide) 126 rfl ?_
      refine sw_blk k_X8_workBack 9 141 [(6, .inl (((σt 37 h) / 41) - (((σt 37 h) % 41) - 20))), (5, .inl (((σt 37 h) % 41) - 20)), (4, .inl ((σt 37 h) / 41)), (3, .inl (h : Int)), (2, .inl (t : Int)), (0, .inr (.inr 26)), (1, .inl q)] [.inl (((σt 37 h) / 41) - (((σt 37 h) % 41) - 20)), .inr (.inr 26)] σt rfl ?_
      refine sw_callV k_X8_workBack rfl cV_X8_isPlace ml_X8_103 ⟨by decide, by decide⟩ 26 rfl rfl [.inl (((σt 37 h) / 41) - (((σt 37 h) % 41) - 20))] [] rfl rfl (Nat.le_of_ble_eq_true rfl) 144 rfl (sp_mPlace σt (((σt 37 h) / 41) - (((σt 37 h) % 41) - 20)) (by omega) (hg 26 0)) (fun r3 σ4 hq5 => ?_)
      obtain ⟨rfl, ⟨p2, rfl⟩ | ⟨p2, rfl⟩⟩ := hq5
      · refine sw_blk k_X8_workBack 0 144 [(6, .inl (((σt 37 h) / 41) - (((σt 37 h) % 41) - 20))), (5, .inl (((σt 37 h) % 41) - 20)), (4, .inl ((σt 37 h) / 41)), (3, .inl (h : Int)), (2, .inl (t : Int)), (0, .inr (.inr 26)), (1, .inl q)] [.inl 1] σt rfl ?_
        refine sw_if_eq k_X8_workBack rfl (by decide) 271 147 (by decide) rfl (fun c => absurd c (by decide)) (fun _ => ?_)
        refine sw_blk k_X8_workBack 3 152 [(6, .inl (((σt 37 h) / 41) - (((σt 37 h) % 41) - 20))), (5, .inl (((σt 37 h) % 41) - 20)), (4, .inl ((σt 37 h) / 41)), (3, .inl (h : Int)), (2, .inl (t : Int)), (0, .inr (.inr 26)), (1, .inl q)] [.inl (((σt 37 h) % 41) - 20), .inl (((σt 37 h) / 41) - (((σt 37 h) % 41) - 20)), .inr (.inr 26)] σt rfl ?_
        refine sw_callV k_X8_workBack rfl cV_X8_isTick ml_X8_114 ⟨by decide, by decide⟩ 26 rfl rfl [.inl (((σt 37 h) / 41) - (((σt 37 h) % 41) - 20)), .inl (((σt 37 h) % 41) - 20)] [] rfl rfl (Nat.le_of_ble_eq_true rfl) 155 rfl (sp_isTick σt hg (((σt 37 h) / 41) - (((σt 37 h) % 41) - 20)) (((σt 37 h) % 41) - 20) (by omega) (by omega) (by omega) (by omega)) (fun r7 σ8 hq9 => ?_)
        obtain ⟨rfl, ⟨p6, rfl⟩ | ⟨p6, rfl⟩⟩ := hq9
        · have htk := p6
          refine sw_blk k_X8_workBack 0 155 [(6, .inl (((σt 37 h) / 41) - (((σt 37 h) % 41) - 20))), (5, .inl (((σt 37 h) % 41) - 20)), (4, .inl ((σt 37 h) / 41)), (3, .inl (h : Int)), (2, .inl (t : Int)), (0, .inr (.inr 26)), (1, .inl q)] [.inl 1] σt rfl ?_
          refine sw_if_eq k_X8_workBack rfl (by decide) 271 158 (by decide) rfl (fun c => absurd c (by decide)) (fun _ => ?_)
          refine sw_blk k_X8_workBack 5 167 [(7, .inl ((((σt 37 h) % 41) - 20) - (σt 26 2))), (6, .inl (((σt 37 h) / 41) - (((σt 37 h) % 41) - 20))), (5, .inl (((σt 37 h) % 41) - 20)), (4, .inl ((σt 37 h) / 41)), (3, .inl (h : Int)), (2, .inl (t : Int)), (0, .inr (.inr 26)), (1, .inl q)] [] σt rfl ?_
          rw [e35, e0, e1] at htk
          have eto : (σt 37 h / 41) = (σt 37 h / 41) - (σt 37 h % 41 - 20) + (σt 37 h % 41 - 20) := by omega
          refine lp_back4 σ hD hV hA q (σt 37 h / 41) ((σt 37 h / 41) - (σt 37 h % 41 - 20)) (σt 37 h % 41 - 20) h (by omega) _ (fun t2 τ ws k1 k2 k3 => ?_) 30 ((σt 37 h % 41 - 20) - σt 26 2) t σt hr hg ⟨B, by omega, by omega, ?_, by omega, htk, fun s z1 z2 => by omega⟩ (by omega) (by omega)
          · refine sw_blk k_X8_workBack 2 101 [(3, .inl ((h : Int) + 1)), (7, .inl ws), (6, .inl ((σt 37 h / 41) - (σt 37 h % 41 - 20))), (5, .inl (σt 37 h % 41 - 20)), (4, .inl (σt 37 h / 41)), (2, .inl (t2 : Int)), (0, .inr (.inr 26)), (1, .inl q)] [] τ rfl ?_
            refine sw_Lsub [(3, .inl ((h : Int) + 1)), (2, .inl (t2 : Int)), (0, .inr (.inr 26)), (1, .inl q)] [0, 5, 6, 7] rfl ?_
            exact ih (h + 1) t2 τ k1 k2 k3 (by have := sw_BF_t k3; have := k3.a8; omega)
          · rw [← eto]; exact ⟨by omega, by omega⟩
        · have htk := p6
          refine sw_blk k_X8_workBack 0 155 [(6, .inl (((σt 37 h) / 41) - (((σt 37 h) % 41) - 20))), (5, .inl (((σt 37 h) % 41) - 20)), (4, .inl ((σt 37 h) / 41)), (3, .inl (h : Int)), (2, .inl (t : Int)), (0, .inr (.inr 26)), (1, .inl q)] [.inl 0] σt rfl ?_
          refine sw_if_eq k_X8_workBack rfl (by decide) 271 158 (by decide) rfl (fun _ => ?_) (fun c => absurd (by decide) c)
          refine sw_blk k_X8_workBack 2 101 [(3, .inl ((h : Int) + 1)), (6, .inl (((σt 37 h) / 41) - (((σt 37 h) % 41) - 20))), (5, .inl (((σt 37 h) % 41) - 20)), (4, .inl ((σt 37 h) / 41)), (2, .inl (t : Int)), (0, .inr (.inr 26)), (1, .inl q)] [] σt rfl ?_
          refine sw_Lsub [(3, .inl ((h : Int) + 1)), (2, .inl (t : Int)), (0, .inr (.inr 26)), (1, .inl q)] [0, 4, 5, 6] rfl ?_
          refine ih (h + 1) t σt hr hg (sw_BF_next B (by omega) (fun p u s x1 x2 x3 x4 x5 x6 => ?_)) (by omega)
          exfalso
          unfold sw_vd at x2 x3
          have x7 : p = (σt 37 h / 41) - (σt 37 h % 41 - 20) := by omega
          have x8 : u = (σt 37 h % 41 - 20) := by omega
          subst x7
          subst x8
          first
          | omega
          | (rw [e35, e0, e1] at htk; exact htk x4)
      · refine sw_blk k_X8_workBack 0 144 [(6, .inl (((σt 37 h) / 41) - (((σt 37 h) % 41) - 20))), (5, .inl (((σt 37 h) % 41) - 20)), (4, .inl ((σt 37 h) / 41)), (3, .inl (h : Int)), (2, .inl (t : Int)), (0, .inr (.inr 26)), (1, .inl q)] [.inl 0] σt rfl ?_
        refine sw_if_eq k_X8_workBack rfl (by decide) 271 147 (by decide) rfl (fun _ => ?_) (fun c => absurd (by decide) c)
        refine sw_blk k_X8_workBack 2 101 [(3, .inl ((h : Int) + 1)), (6, .inl (((σt 37 h) / 41) - (((σt 37 h) % 41) - 20))), (5, .inl (((σt 37 h) % 41) - 20)), (4, .inl ((σt 37 h) / 41)), (2, .inl (t : Int)), (0, .inr (.inr 26)), (1, .inl q)] [] σt rfl ?_
        refine sw_Lsub [(3, .inl ((h : Int) + 1)), (2, .inl (t : Int)), (0, .inr (.inr 26)), (1, .inl q)] [0, 4, 5, 6] rfl ?_
        refine ih (h + 1) t σt hr hg (sw_BF_next B (by omega) (fun p u s x1 x2 x3 x4 x5 x6 => ?_)) (by omega)
        exfalso
        unfold sw_vd at x2 x3
        have x7 : p = (σt 37 h / 41) - (σt 37 h % 41 - 20) := by omega
        have x8 : u = (σt 37 h % 41 - 20) := by omega
        subst x7
        subst x8
        first
        | omega
        | (rw [e35, e0, e1] at htk; exact htk x4)
set_option maxRecDepth 8000 in
theorem lp_back2 (σ : sw_S) (hD : 10 ≤ σ 26 0 ∧ σ 26 0 ≤ 400) (hV : 1 ≤ σ 26 1 ∧ σ 26 1 ≤ 20) (hA : 1 ≤ σ 26 2 ∧ σ 26 2 ≤ 5) (q : Int) (hq : 0 ≤ q ∧ q ≤ σ 26 0) (Q : Option sw_Vl → sw_S → Prop) (hQ : ∀ σt : sw_S, (∀ i j, i ≠ 36 → i ≠ 37 → σt i j = σ i j) → sw_gs σt → sw_LF (σ 35) (σ 26 0) (σ 26 1) (σ 26 2) q (σt 36) → Q none σt) : ∀ (n : Nat) (v : Int) (t : Nat) (σt : sw_S), (∀ i j, i ≠ 36 → i ≠ 37 → σt i j = σ i j) → sw_gs σt → sw_BR (σ 35) (σ 26 0) (σ 26 1) (σ 26 2) q (σt 36) (σt 37) t v → (-σ 26 2 ≤ v ∧ v ≤ σ 26 2 + 1) → (σ 26 2 + 1 - v).toNat < n → sw_E sw_ly sw_rho M_X8_workBack 36 [(3, .inl v), (2, .inl (t : Int)), (0, .inr (.inr 26)), (1, .inl q)] [] σt Q := by
  intro n
  induction n with
  | zero =>
    intro v t σt hr hg I hv hn
    omega
  | succ n ih =>
    intro v t σt hr hg I hv hn
    have e0 := hr 26 0 (by decide) (by decide)
    have e1 := hr 26 1 (by decide) (by decide)
    have e2 := hr 26 2 (by decide) (by decide)
    have e35 : σt 35 = σ 35 := funext fun j => hr 35 j (by decide) (by decide)
    refine sw_blk k_X8_workBack 3 41 [(3, .inl v), (2, .inl (t : Int)), (0, .inr (.inr 26)), (1, .inl q)] [.inl (σt 26 2), .inl v] σt rfl ?_
    refine sw_icmp_gt k_X8_workBack rfl (by omega) (hg 26 _) 99 44 (by decide) rfl (fun c1 => ?_) (fun c1 => ?_)
    · refine sw_blk k_X8_workBack 2 101 [(3, .inl 0), (2, .inl (t : Int)), (0, .inr (.inr 26)), (1, .inl q)] [] σt rfl ?_
      have ev : v = σ 26 2 + 1 := by omega
      have B := I.1
      rw [ev] at B
      exact lp_back3 σ hD hV hA q hq Q hQ 17001 0 t σt hr hg B (by omega)
    · refine sw_blk k_X8_workBack 6 54 [(3, .inl v), (2, .inl (t : Int)), (0, .inr (.inr 26)), (1, .inl q)] [.inl (σt 26 1), .inl (-(σt 26 1)), .inl v] σt rfl ?_
      refine sw_callS k_X8_workBack rfl cS_X8_in ml_X8_87 ⟨by decide, by decide⟩ [.inl v, .inl (-(σt 26 1)), .inl (σt 26 1)] [] rfl rfl (Nat.le_of_ble_eq_true rfl) 57 rfl (sp_in σt v (-(σt 26 1)) (σt 26 1) (by omega) (by omega) (by omega)) (fun r3 σ4 hq5 => ?_)
      obtain ⟨rfl, ⟨p2, rfl⟩ | ⟨p2, rfl⟩⟩ := hq5
      · have hlen := sw_BF_len (p := q) (s := v) (by omega) (by omega) I.1 ⟨hq, by omega⟩ (I.2.2 v (by omega) ⟨hq, by omega⟩)
        refine sw_blk k_X8_workBack 0 57 [(3, .inl v), (2, .inl (t : Int)), (0, .inr (.inr 26)), (1, .inl q)] [.inl 1] σt rfl ?_
        refine sw_if_eq k_X8_workBack rfl (by decide) 93 60 (by decide) rfl (fun c => absurd c (by decide)) (fun _ => ?_)
        refine sw_blk k_X8_workBack 10 74 [(3, .inl v), (2, .inl (t : Int)), (0, .inr (.inr 26)), (1, .inl q)] [.inl 0, .inl (((41 * q) + v) + 20), .inr (.inr 36)] σt rfl ?_
        refine sw_iast k_X8_workBack rfl (i := 36) (n := 16441) rfl (by decide) (by omega) (by omega) 75 rfl ?_
        refine sw_blk k_X8_workBack 10 89 [(3, .inl v), (2, .inl (t : Int)), (0, .inr (.inr 26)), (1, .inl q)] [.inl (((41 * q) + v) + 20), .inl (t : Int), .inr (.inr 37)] (sw_u σt 36 ((((41 * q) + v) + 20).toNat) 0) rfl ?_
        refine sw_iast k_X8_workBack rfl (i := 37) (n := 16441) rfl (by decide) (by omega) (by omega) 90 rfl ?_
        refine sw_blk k_X8_workBack 3 36 [(3, .inl (v + 1)), (2, .inl ((t : Int) + 1)), (0, .inr (.inr 26)), (1, .inl q)] [] (sw_u (sw_u σt 36 ((((41 * q) + v) + 20).toNat) 0) 37 t (((41 * q) + v) + 20)) rfl ?_
        exact ih (v + 1) (t + 1) _ (fun i j z1 z2 => by rw [sw_u_row _ _ z2, sw_u_row _ _ z1]; exact hr i j z1 z2) (sw_gs_u (sw_gs_u hg _ _ (by omega)) _ _ (by omega)) (sw_BR_put (by omega) (by omega) hq I (by omega) (by omega) (fun j => sw_u2_f σt _ t _ _ j) (fun j => sw_u2_g σt _ t _ _ j)) (by omega) (by omega)
      · refine sw_blk k_X8_workBack 0 57 [(3, .inl v), (2, .inl (t : Int)), (0, .inr (.inr 26)), (1, .inl q)] [.inl 0] σt rfl ?_
        refine sw_if_eq k_X8_workBack rfl (by decide) 93 60 (by decide) rfl (fun _ => ?_) (fun c => absurd (by decide) c)
        refine sw_blk k_X8_workBack 2 36 [(3, .inl (v + 1)), (2, .inl (t : Int)), (0, .inr (.inr 26)), (1, .inl q)] [] σt rfl ?_
        exact ih (v + 1) t σt hr hg (sw_BR_skip I (by omega)) (by omega) (by omega)
set_option maxRecDepth 8000 in
theorem lp_back1 (σ : sw_S) (hD : 10 ≤ σ 26 0 ∧ σ 26 0 ≤ 400) (hV : 1 ≤ σ 26 1 ∧ σ 26 1 ≤ 20) (hA : 1 ≤ σ 26 2 ∧ σ 26 2 ≤ 5) (q : Int) (hq : 0 ≤ q ∧ q ≤ σ 26 0) (Q : Option sw_Vl → sw_S → Prop) (hQ : ∀ σt : sw_S, (∀ i j, i ≠ 36 → i ≠ 37 → σt i j = σ i j) → sw_gs σt → sw_LF (σ 35) (σ 26 0) (σ 26 1) (σ 26 2) q (σt 36) → Q none σt) : ∀ (n : Nat) (k : Nat) (σt : sw_S), (∀ i j, i ≠ 36 → i ≠ 37 → σt i j = σ i j) → sw_gs σt → (∀ j, j < k → σt 36 j = -1) → (k : Int) ≤ 41 * (σ 26 0 + 1) → 17000 - k < n → sw_E sw_ly sw_rho M_X8_workBack 2 [(2, .inl (k : Int)), (0, .inr (.inr 26)), (1, .inl q)] [] σt Q := by
  intro n
  induction n with
  | zero =>
    intro k σt hr hg hc hk hn
    omega
  | succ n ih =>
    intro k σt hr hg hc hk hn
    have e0 := hr 26 0 (by decide) (by decide)
    have e1 := hr 26 1 (by decide) (by decide)
    have e2 := hr 26 2 (by decide) (by decide)
    have e35 : σt 35 = σ 35 := funext fun j => hr 35 j (by decide) (by decide)
    refine sw_blk k_X8_workBack 7 12 [(2, .inl (k : Int)), (0, .inr (.inr 26)), (1, .inl q)] [.inl (41 * ((σt 26 0) + 1)), .inl (k : Int)] σt rfl ?_
    refine sw_icmp_ge k_X8_workBack rfl (by omega) (by omega) 28 15 (by decide) rfl (fun c1 => ?_) (fun c1 => ?_)
    · refine sw_blk k_X8_workBack 6 36 [(3, .inl (-(σt 26 2))), (2, .inl 0), (0, .inr (.inr 26)), (1, .inl q)] [] σt rfl ?_
      rw [e2]
      have B := sw_BF_0 (lim := σ 35) (A := σ 26 2) (q := q) (g := σt 37) (D := σ 26 0) (V := σ 26 1) (by omega) (by omega) (f := σt 36) (fun j hj => hc j (by omega))
      exact lp_back2 σ hD hV hA q hq Q hQ 30 _ 0 σt hr hg ⟨B, fun i hi => by omega, fun s z1 z2 => hc _ (by have := sw_cd_lt (by omega) (by omega) z2; omega)⟩ (by omega) (by omega)
    · refine sw_blk k_X8_workBack 4 21 [(2, .inl (k : Int)), (0, .inr (.inr 26)), (1, .inl q)] [.inl (-1), .inl (k : Int), .inr (.inr 36)] σt rfl ?_
      refine sw_iast k_X8_workBack rfl (i := 36) (n := 16441) rfl (by decide) (by omega) (by omega) 22 rfl ?_
      refine sw_blk k_X8_workBack 2 2 [(2, .inl ((k : Int) + 1)), (0, .inr (.inr 26)), (1, .inl q)] [] (sw_u σt 36 k (-1)) rfl ?_
      exact ih (k + 1) _ (fun i j z1 z2 => by rw [sw_u_row _ _ z1]; exact hr i j z1 z2) (sw_gs_u hg _ _ (by omega)) (fun j hj => by rcases Nat.lt_or_ge j k with z | z; rw [sw_u_ne _ _ (by omega)]; exact hc j z; rw [show j = k by omega, sw_u_same]) (by omega) (by omega)
set_option maxRecDepth 8000 in
theorem sp_workBack (σ : sw_S) (hg : sw_gs σ) (hD : 10 ≤ σ 26 0 ∧ σ 26 0 ≤ 400) (hV : 1 ≤ σ 26 1 ∧ σ 26 1 ≤ 20) (hA : 1 ≤ σ 26 2 ∧ σ 26 2 ≤ 5) (q : Int) (hq : 0 ≤ q ∧ q ≤ σ 26 0) : sw_Con sw_ly sw_rho M_X8_workBack [.inr (.inr 26), .inl q] σ (fun r σ' => r = none ∧ (∀ i j, i ≠ 36 → i ≠ 37 → σ' i j = σ i j) ∧ sw_gs σ' ∧ sw_LF (σ 35) (σ 26 0) (σ 26 1) (σ 26 2) q (σ' 36)) := by
  refine sw_con (by decide) (Nat.le_of_ble_eq_true rfl) ?_
  refine sw_blk k_X8_workBack 2 2 [(2, .inl 0), (0, .inr (.inr 26)), (1, .inl q)] [] σ rfl ?_
  exact lp_back1 σ hD hV hA q hq _ (fun τ k1 k2 k3 => ⟨rfl, k1, k2, k3⟩) 17001 0 σ (fun _ _ _ _ => rfl) hg (fun j hj => by omega) (by omega) (by omega)
