/-! hold BY RANGES OF THE SLOT (wip/p3/mkj4b.py) -/
section WLM2
variable {E : mm_E} {x y : Int32} {h : mm_H} {gs : List mm_F} {FIN : mm_C → Prop}
theorem wl_c_holdp1 : sf_cells (sf_w0 0 0) wl_H sa_m162.2.2.1 sa_m162.2.2.2.2.1 = true := by decide +kernel
theorem wl_c_holdp2 : sf_cells (sf_w0 0 0) sa_m162.2.2.2.1 wl_H sa_m162.2.2.2.2.1 = true := by decide +kernel
theorem wl_c_holdp3 {ρ : Nat → Int32} {ω : Nat → Value} {a1 : Int32} (ha : a1.toInt < 0) : en_lr E ρ ω 2 sa_m162.2.1 [(0, .ref (E.1 + 0)), (1, .int a1)] := by
  intro i hi
  have hc : i = 0 ∨ i = 1 := by omega
  rcases hc with rfl | rfl
  · exact Or.inr ⟨_, rfl, by rw [show en_elt sa_m162.2.1 0 = 8589934592 from by decide +kernel]; exact (en_v_ref (by decide) (by decide)).mpr rfl⟩
  · refine Or.inr ⟨_, rfl, ?_⟩
    rw [show en_elt sa_m162.2.1 1 = 73786976296985690111 from by decide +kernel]
    have hz := en_z_int a1
    have hb := Int32.toInt_lt a1
    exact (en_v_rng (by decide) (by decide)).mpr ⟨_, rfl, by omega, by omega⟩
theorem wl_c_holdp {a1 : Int32} (ha : a1.toInt < 0) (hS : ∀ ρ, en_SA E ρ (wl_o x y) mt_SB) (h8 : ∃ q, E.2[8]? = some q) (hL : wl_W E wl_H x y h) (hd : gs.length ≤ 900) (kk : ∀ (h' : mm_H) (r : Int32), wl_W E wl_H x y h' → (r.toInt = 1 ∧ 0 ≤ a1.toInt ∧ a1.toInt ≤ 2 ∨ r.toInt = 0 ∧ (a1.toInt < 0 ∨ 2 < a1.toInt)) → en_Good E mt_kds mt_P 1000 FIN (mm_back (some (.int r)) gs h')) : en_Good E mt_kds mt_P 1000 FIN ((236, 0, [(0, .ref (E.1 + 0)), (1, .int a1)], [], 0, 0) :: gs, h, none) :=
  wl_call (M := sa_m162) (Hi := wl_H) (Ho := wl_H) (sa_k162 hS rd_JX (sf_MnA_ok h8)) wl_c_holdp1 wl_c_holdp2 (fun _ _ _ => rfl) (by decide) wl_H_n wl_H_n (cs := mt_236.1) (nL := 2) (dd := mt_236.2.2) rfl hL (fun ρ => wl_c_holdp3 ha) (by omega) (fun vo h' hL2 hv => by
    rcases hv (fun _ => 0) with ⟨e, -⟩ | ⟨c2, V, e, rfl, hv⟩
    · cases e
    · cases e
      have g := (en_v_const (by decide)).mp hv
      subst g
      refine kk h' _ hL2 ?_
      rw [show (en_d 2147483648).toInt = 0 from by decide +kernel]
      omega)
theorem wl_c_holdq1 : sf_cells (sf_w0 0 0) wl_H sa_m163.2.2.1 sa_m163.2.2.2.2.1 = true := by decide +kernel
theorem wl_c_holdq2 : sf_cells (sf_w0 0 0) sa_m163.2.2.2.1 wl_H sa_m163.2.2.2.2.1 = true := by decide +kernel
theorem wl_c_holdq3 {ρ : Nat → Int32} {ω : Nat → Value} {a1 : Int32} (ha : 0 ≤ a1.toInt ∧ a1.toInt ≤ 2) : en_lr E ρ ω 2 sa_m163.2.1 [(0, .ref (E.1 + 0)), (1, .int a1)] := by
  intro i hi
  have hc : i = 0 ∨ i = 1 := by omega
  rcases hc with rfl | rfl
  · exact Or.inr ⟨_, rfl, by rw [show en_elt sa_m163.2.1 0 = 8589934592 from by decide +kernel]; exact (en_v_ref (by decide) (by decide)).mpr rfl⟩
  · refine Or.inr ⟨_, rfl, ?_⟩
    rw [show en_elt sa_m163.2.1 1 = 83010348333840465922 from by decide +kernel]
    have hz := en_z_int a1
    have hb := Int32.toInt_lt a1
    exact (en_v_rng (by decide) (by decide)).mpr ⟨_, rfl, by omega, by omega⟩
theorem wl_c_holdq {a1 : Int32} (ha : 0 ≤ a1.toInt ∧ a1.toInt ≤ 2) (hS : ∀ ρ, en_SA E ρ (wl_o x y) mt_SB) (h8 : ∃ q, E.2[8]? = some q) (hL : wl_W E wl_H x y h) (hd : gs.length ≤ 900) (kk : ∀ (h' : mm_H) (r : Int32), wl_W E wl_H x y h' → (r.toInt = 1 ∧ 0 ≤ a1.toInt ∧ a1.toInt ≤ 2 ∨ r.toInt = 0 ∧ (a1.toInt < 0 ∨ 2 < a1.toInt)) → en_Good E mt_kds mt_P 1000 FIN (mm_back (some (.int r)) gs h')) : en_Good E mt_kds mt_P 1000 FIN ((236, 0, [(0, .ref (E.1 + 0)), (1, .int a1)], [], 0, 0) :: gs, h, none) :=
  wl_call (M := sa_m163) (Hi := wl_H) (Ho := wl_H) (sa_k163 hS rd_JX (sf_MnA_ok h8)) wl_c_holdq1 wl_c_holdq2 (fun _ _ _ => rfl) (by decide) wl_H_n wl_H_n (cs := mt_236.1) (nL := 2) (dd := mt_236.2.2) rfl hL (fun ρ => wl_c_holdq3 ha) (by omega) (fun vo h' hL2 hv => by
    rcases hv (fun _ => 0) with ⟨e, -⟩ | ⟨c2, V, e, rfl, hv⟩
    · cases e
    · cases e
      have g := (en_v_const (by decide)).mp hv
      subst g
      refine kk h' _ hL2 ?_
      rw [show (en_d 2147483649).toInt = 1 from by decide +kernel]
      omega)
theorem wl_c_holdr1 : sf_cells (sf_w0 0 0) wl_H sa_m164.2.2.1 sa_m164.2.2.2.2.1 = true := by decide +kernel
theorem wl_c_holdr2 : sf_cells (sf_w0 0 0) sa_m164.2.2.2.1 wl_H sa_m164.2.2.2.2.1 = true := by decide +kernel
theorem wl_c_holdr3 {ρ : Nat → Int32} {ω : Nat → Value} {a1 : Int32} (ha : 2 < a1.toInt) : en_lr E ρ ω 2 sa_m164.2.1 [(0, .ref (E.1 + 0)), (1, .int a1)] := by
  intro i hi
  have hc : i = 0 ∨ i = 1 := by omega
  rcases hc with rfl | rfl
  · exact Or.inr ⟨_, rfl, by rw [show en_elt sa_m164.2.1 0 = 8589934592 from by decide +kernel]; exact (en_v_ref (by decide) (by decide)).mpr rfl⟩
  · refine Or.inr ⟨_, rfl, ?_⟩
    rw [show en_elt sa_m164.2.1 1 = 83010348348872851455 from by decide +kernel]
    have hz := en_z_int a1
    have hb := Int32.toInt_lt a1
    exact (en_v_rng (by decide) (by decide)).mpr ⟨_, rfl, by omega, by omega⟩
theorem wl_c_holdr {a1 : Int32} (ha : 2 < a1.toInt) (hS : ∀ ρ, en_SA E ρ (wl_o x y) mt_SB) (h8 : ∃ q, E.2[8]? = some q) (hL : wl_W E wl_H x y h) (hd : gs.length ≤ 900) (kk : ∀ (h' : mm_H) (r : Int32), wl_W E wl_H x y h' → (r.toInt = 1 ∧ 0 ≤ a1.toInt ∧ a1.toInt ≤ 2 ∨ r.toInt = 0 ∧ (a1.toInt < 0 ∨ 2 < a1.toInt)) → en_Good E mt_kds mt_P 1000 FIN (mm_back (some (.int r)) gs h')) : en_Good E mt_kds mt_P 1000 FIN ((236, 0, [(0, .ref (E.1 + 0)), (1, .int a1)], [], 0, 0) :: gs, h, none) :=
  wl_call (M := sa_m164) (Hi := wl_H) (Ho := wl_H) (sa_k164 hS rd_JX (sf_MnA_ok h8)) wl_c_holdr1 wl_c_holdr2 (fun _ _ _ => rfl) (by decide) wl_H_n wl_H_n (cs := mt_236.1) (nL := 2) (dd := mt_236.2.2) rfl hL (fun ρ => wl_c_holdr3 ha) (by omega) (fun vo h' hL2 hv => by
    rcases hv (fun _ => 0) with ⟨e, -⟩ | ⟨c2, V, e, rfl, hv⟩
    · cases e
    · cases e
      have g := (en_v_const (by decide)).mp hv
      subst g
      refine kk h' _ hL2 ?_
      rw [show (en_d 2147483648).toInt = 0 from by decide +kernel]
      omega)
theorem wl_c_hold37 {a1 : Int32} (hS : ∀ ρ, en_SA E ρ (wl_o x y) mt_SB) (h8 : ∃ q, E.2[8]? = some q) (hL : wl_W E wl_H x y h) (hd : gs.length ≤ 900) (kk : ∀ (h' : mm_H) (r : Int32), wl_W E wl_H x y h' → (r.toInt = 1 ∧ 0 ≤ a1.toInt ∧ a1.toInt ≤ 2 ∨ r.toInt = 0 ∧ (a1.toInt < 0 ∨ 2 < a1.toInt)) → en_Good E mt_kds mt_P 1000 FIN (mm_back (some (.int r)) gs h')) : en_Good E mt_kds mt_P 1000 FIN ((236, 0, [(0, .ref (E.1 + 0)), (1, .int a1)], [], 0, 0) :: gs, h, none) := by
  by_cases h1 : a1.toInt < 0
  · exact wl_c_holdp h1 hS h8 hL hd kk
  by_cases h2 : a1.toInt ≤ 2
  · exact wl_c_holdq ⟨by omega, h2⟩ hS h8 hL hd kk
  · exact wl_c_holdr (by omega) hS h8 hL hd kk
theorem wl_m_holdp1 : sf_cells (sf_w0 0 0) wl_H zb_m489.2.2.1 zb_m489.2.2.2.2.1 = true := by decide +kernel
theorem wl_m_holdp2 : sf_cells (sf_w0 0 0) zb_m489.2.2.2.1 wl_H zb_m489.2.2.2.2.1 = true := by decide +kernel
theorem wl_m_holdp3 {ρ : Nat → Int32} {ω : Nat → Value} {a1 : Int32} (ha : a1.toInt < 0) : en_lr E ρ ω 3 zb_m489.2.1 [(0, .ref (E.1 + 88)), (1, .int a1)] := by
  intro i hi
  have hc : i = 0 ∨ i = 1 ∨ i = 2 := by omega
  rcases hc with rfl | rfl | rfl
  · exact Or.inr ⟨_, rfl, by rw [show en_elt zb_m489.2.1 0 = 8589934680 from by decide +kernel]; exact (en_v_ref (by decide) (by decide)).mpr rfl⟩
  · refine Or.inr ⟨_, rfl, ?_⟩
    rw [show en_elt zb_m489.2.1 1 = 73786976296985690111 from by decide +kernel]
    have hz := en_z_int a1
    have hb := Int32.toInt_lt a1
    exact (en_v_rng (by decide) (by decide)).mpr ⟨_, rfl, by omega, by omega⟩
  · exact Or.inl (by decide +kernel)
theorem wl_m_holdp {a1 : Int32} (ha : a1.toInt < 0) (hS : ∀ ρ, en_SA E ρ (wl_o x y) mt_SB) (hL : wl_W E wl_H x y h) (hd : gs.length ≤ 900) (kk : ∀ (h' : mm_H) (r : Int32), wl_W E wl_H x y h' → (r.toInt = 1 ∧ 0 ≤ a1.toInt ∧ a1.toInt ≤ 2 ∨ r.toInt = 0 ∧ (a1.toInt < 0 ∨ 2 < a1.toInt)) → en_Good E mt_kds mt_P 1000 FIN (mm_back (some (.int r)) gs h')) : en_Good E mt_kds mt_P 1000 FIN ((41, 0, [(0, .ref (E.1 + 88)), (1, .int a1)], [], 0, 0) :: gs, h, none) :=
  wl_call (M := zb_m489) (Hi := wl_H) (Ho := wl_H) (zb_k489 hS rd_JX rd_MnB) wl_m_holdp1 wl_m_holdp2 (fun _ _ _ => rfl) (by decide) wl_H_n wl_H_n (cs := mt_41.1) (nL := 3) (dd := mt_41.2.2) rfl hL (fun ρ => wl_m_holdp3 ha) (by omega) (fun vo h' hL2 hv => by
    rcases hv (fun _ => 0) with ⟨e, -⟩ | ⟨c2, V, e, rfl, hv⟩
    · cases e
    · cases e
      have g := (en_v_const (by decide)).mp hv
      subst g
      refine kk h' _ hL2 ?_
      rw [show (en_d 2147483648).toInt = 0 from by decide +kernel]
      omega)
theorem wl_m_holdq1 : sf_cells (sf_w0 0 0) wl_H zb_m490.2.2.1 zb_m490.2.2.2.2.1 = true := by decide +kernel
theorem wl_m_holdq2 : sf_cells (sf_w0 0 0) zb_m490.2.2.2.1 wl_H zb_m490.2.2.2.2.1 = true := by decide +kernel
theorem wl_m_holdq3 {ρ : Nat → Int32} {ω : Nat → Value} {a1 : Int32} (ha : 0 ≤ a1.toInt ∧ a1.toInt ≤ 2) : en_lr E ρ ω 3 zb_m490.2.1 [(0, .ref (E.1 + 88)), (1, .int a1)] := by
  intro i hi
  have hc : i = 0 ∨ i = 1 ∨ i = 2 := by omega
  rcases hc with rfl | rfl | rfl
  · exact Or.inr ⟨_, rfl, by rw [show en_elt zb_m490.2.1 0 = 8589934680 from by decide +kernel]; exact (en_v_ref (by decide) (by decide)).mpr rfl⟩
  · refine Or.inr ⟨_, rfl, ?_⟩
    rw [show en_elt zb_m490.2.1 1 = 83010348333840465922 from by decide +kernel]
    have hz := en_z_int a1
    have hb := Int32.toInt_lt a1
    exact (en_v_rng (by decide) (by decide)).mpr ⟨_, rfl, by omega, by omega⟩
  · exact Or.inl (by decide +kernel)
theorem wl_m_holdq {a1 : Int32} (ha : 0 ≤ a1.toInt ∧ a1.toInt ≤ 2) (hS : ∀ ρ, en_SA E ρ (wl_o x y) mt_SB) (hL : wl_W E wl_H x y h) (hd : gs.length ≤ 900) (kk : ∀ (h' : mm_H) (r : Int32), wl_W E wl_H x y h' → (r.toInt = 1 ∧ 0 ≤ a1.toInt ∧ a1.toInt ≤ 2 ∨ r.toInt = 0 ∧ (a1.toInt < 0 ∨ 2 < a1.toInt)) → en_Good E mt_kds mt_P 1000 FIN (mm_back (some (.int r)) gs h')) : en_Good E mt_kds mt_P 1000 FIN ((41, 0, [(0, .ref (E.1 + 88)), (1, .int a1)], [], 0, 0) :: gs, h, none) :=
  wl_call (M := zb_m490) (Hi := wl_H) (Ho := wl_H) (zb_k490 hS rd_JX rd_MnB) wl_m_holdq1 wl_m_holdq2 (fun _ _ _ => rfl) (by decide) wl_H_n wl_H_n (cs := mt_41.1) (nL := 3) (dd := mt_41.2.2) rfl hL (fun ρ => wl_m_holdq3 ha) (by omega) (fun vo h' hL2 hv => by
    rcases hv (fun _ => 0) with ⟨e, -⟩ | ⟨c2, V, e, rfl, hv⟩
    · cases e
    · cases e
      have g := (en_v_const (by decide)).mp hv
      subst g
      refine kk h' _ hL2 ?_
      rw [show (en_d 2147483649).toInt = 1 from by decide +kernel]
      omega)
theorem wl_m_holdr1 : sf_cells (sf_w0 0 0) wl_H zb_m491.2.2.1 zb_m491.2.2.2.2.1 = true := by decide +kernel
theorem wl_m_holdr2 : sf_cells (sf_w0 0 0) zb_m491.2.2.2.1 wl_H zb_m491.2.2.2.2.1 = true := by decide +kernel
theorem wl_m_holdr3 {ρ : Nat → Int32} {ω : Nat → Value} {a1 : Int32} (ha : 2 < a1.toInt) : en_lr E ρ ω 3 zb_m491.2.1 [(0, .ref (E.1 + 88)), (1, .int a1)] := by
  intro i hi
  have hc : i = 0 ∨ i = 1 ∨ i = 2 := by omega
  rcases hc with rfl | rfl | rfl
  · exact Or.inr ⟨_, rfl, by rw [show en_elt zb_m491.2.1 0 = 8589934680 from by decide +kernel]; exact (en_v_ref (by decide) (by decide)).mpr rfl⟩
  · refine Or.inr ⟨_, rfl, ?_⟩
    rw [show en_elt zb_m491.2.1 1 = 83010348348872851455 from by decide +kernel]
    have hz := en_z_int a1
    have hb := Int32.toInt_lt a1
    exact (en_v_rng (by decide) (by decide)).mpr ⟨_, rfl, by omega, by omega⟩
  · exact Or.inl (by decide +kernel)
theorem wl_m_holdr {a1 : Int32} (ha : 2 < a1.toInt) (hS : ∀ ρ, en_SA E ρ (wl_o x y) mt_SB) (hL : wl_W E wl_H x y h) (hd : gs.length ≤ 900) (kk : ∀ (h' : mm_H) (r : Int32), wl_W E wl_H x y h' → (r.toInt = 1 ∧ 0 ≤ a1.toInt ∧ a1.toInt ≤ 2 ∨ r.toInt = 0 ∧ (a1.toInt < 0 ∨ 2 < a1.toInt)) → en_Good E mt_kds mt_P 1000 FIN (mm_back (some (.int r)) gs h')) : en_Good E mt_kds mt_P 1000 FIN ((41, 0, [(0, .ref (E.1 + 88)), (1, .int a1)], [], 0, 0) :: gs, h, none) :=
  wl_call (M := zb_m491) (Hi := wl_H) (Ho := wl_H) (zb_k491 hS rd_JX rd_MnB) wl_m_holdr1 wl_m_holdr2 (fun _ _ _ => rfl) (by decide) wl_H_n wl_H_n (cs := mt_41.1) (nL := 3) (dd := mt_41.2.2) rfl hL (fun ρ => wl_m_holdr3 ha) (by omega) (fun vo h' hL2 hv => by
    rcases hv (fun _ => 0) with ⟨e, -⟩ | ⟨c2, V, e, rfl, hv⟩
    · cases e
    · cases e
      have g := (en_v_const (by decide)).mp hv
      subst g
      refine kk h' _ hL2 ?_
      rw [show (en_d 2147483648).toInt = 0 from by decide +kernel]
      omega)
theorem wl_m_hold37 {a1 : Int32} (hS : ∀ ρ, en_SA E ρ (wl_o x y) mt_SB) (hL : wl_W E wl_H x y h) (hd : gs.length ≤ 900) (kk : ∀ (h' : mm_H) (r : Int32), wl_W E wl_H x y h' → (r.toInt = 1 ∧ 0 ≤ a1.toInt ∧ a1.toInt ≤ 2 ∨ r.toInt = 0 ∧ (a1.toInt < 0 ∨ 2 < a1.toInt)) → en_Good E mt_kds mt_P 1000 FIN (mm_back (some (.int r)) gs h')) : en_Good E mt_kds mt_P 1000 FIN ((41, 0, [(0, .ref (E.1 + 88)), (1, .int a1)], [], 0, 0) :: gs, h, none) := by
  by_cases h1 : a1.toInt < 0
  · exact wl_m_holdp h1 hS hL hd kk
  by_cases h2 : a1.toInt ≤ 2
  · exact wl_m_holdq ⟨by omega, h2⟩ hS hL hd kk
  · exact wl_m_holdr (by omega) hS hL hd kk
end WLM2
