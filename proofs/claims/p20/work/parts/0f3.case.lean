/-! CASES OF A PLACE, each with its own contract -/
section SFK2
variable {E : mm_E} {ω : Nat → Value}
/-- a contract out of those of the cases of a place -/
theorem sf_K_case2 {J : mm_H → Prop} {n dp nx lo hi : Nat} {M : sf_M} (p : Nat × Nat) (hp0 : Nat.beq p.1 1000 = false) (hn : ∀ cs nL dd, mt_P[M.1 / 65536]? = some (cs, nL, dd) → nL = n) (hpk : sf_pk n M.2.2.1 p = true) (hI : en_isI (sf_cd M.2.1 M.2.2.1 p) = true) (hiv : en_iv (sf_w0 dp nx) (sf_cd M.2.1 M.2.2.1 p) (fun a b => en_if (Nat.ble lo a) (Nat.ble b hi) false) = true) (hnl2 : sf_nlh M.2.2.2.1 136 = true)
    (hV : ∀ v, lo ≤ v → v ≤ hi → ∃ M', sf_K E ω J dp nx M' ∧ M'.1 = M.1 ∧ M'.2.1 = M.2.1 ∧ sf_nlh M'.2.2.1 136 = true ∧ sf_heap (sf_w0 dp nx) (en_put M.2.2.1 p.1 (en_eset (en_get M.2.2.1 p.1) p.2 v)) M'.2.2.1 136 = true ∧ sf_heap (sf_w0 dp nx) M'.2.2.2.1 M.2.2.2.1 136 = true ∧ sf_st (sf_w0 dp nx) M'.2.2.2.2.2 M.2.2.2.2.2 = true) : sf_K E ω J dp nx M := by
  intro h0 fsC FIN c hJ hR hp
  obtain ⟨x, hx, hv⟩ := sf_pos_v hn (hR (fun _ => 0)) hpk hI
  obtain ⟨a, b, g1, g2, g3, g4⟩ := en_iv_v (sf_R_e (hR (fun _ => 0))) hv
  rw [g4] at hiv
  obtain ⟨l1, l2⟩ := en_if_and.mp hiv
  have l1 := en_ble_t.mp l1
  have l2 := en_ble_t.mp l2
  obtain ⟨M', k1, k2, k3, k4, k5, k6, k7⟩ := hV (en_z x) (by omega) (by omega)
  refine k1 h0 fsC FIN c hJ (fun ρ => ?_) (fun vo h hq hl => hp vo h (fun ρ => ?_) hl)
  · have hnc : en_v E ρ ω (en_z x) (.int x) := by
      rw [en_v_const (en_z_lt x), en_d_z]
    have h9 := sf_put_v hn (hR ρ) hpk hx hnc
    rw [hp0, en_if_f, en_if_f] at h9
    obtain ⟨lv, sv, gs, h, o, e1, e2, e3, e4, e5⟩ := h9
    rw [k2, k3]
    exact ⟨lv, sv, gs, h, o, e1, e2, e3, sf_heap_v ρ e5.1 k4 k5 e4, e5⟩
  · obtain ⟨q1, q2⟩ := hq ρ
    exact ⟨sf_vo ρ (sf_full_e ρ 40) k7 q1, sf_heap_v ρ (sf_full_e ρ 40) hnl2 k6 q2⟩
end SFK2
