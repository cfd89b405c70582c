/-! EACH METHOD BETWEEN THE LAW'S CALLS (wip/p3/mkj4.py) -/
theorem wl_o88 {E : mm_E} {x y : Int32} {h : mm_H} (hL : wl_W E wl_H x y h) : ∃ fs : List Value, h[88]? = some (.inr (9, fs)) := by
  obtain ⟨fs, f1, -, -⟩ := br_o wl_k1 (hL.2.2.2.2 (fun _ => 0))
  exact ⟨fs, f1⟩
theorem wl_c1 : en_kind (en_get wl_H 0) = 14 := by decide +kernel
theorem wl_c2 : en_len (en_get wl_H 0) = 11 := by decide +kernel
theorem br_o0 {E : mm_E} {ω : Nat → Value} {h0 h : mm_H} {H : en_H} {ρ : Nat → Int32} (hk : en_kind (en_get H 0) = 14) (hh : en_h E ρ ω h0 H h) : ∃ fs : List Value, h[0]? = some (.inr (8, fs)) ∧ fs.length = en_len (en_get H 0) ∧ ∀ (j : Nat) (v : Value), fs[j]? = some v → en_v E ρ ω (en_elt (en_get H 0) j) v := by
  rcases (hh 0).1 (by decide) (by rw [hk]; decide) with ⟨t, f, d1, d2, d3, d4⟩ | ⟨f, d1, d2, d3⟩ | ⟨f, d1, d2, d3⟩ | ⟨ci, fs, d1, d2, d3, d4⟩
  · omega
  · omega
  · omega
  · have e : ci = 8 := by rw [hk] at d1; omega
    subst e
    exact ⟨fs, d2, d3, d4⟩
theorem wl_o0 {E : mm_E} {x y : Int32} {h : mm_H} (hL : wl_W E wl_H x y h) : ∃ fs : List Value, h[0]? = some (.inr (8, fs)) := by
  obtain ⟨fs, f1, -, -⟩ := br_o0 wl_c1 (hL.2.2.2.2 (fun _ => 0))
  exact ⟨fs, f1⟩
theorem wl_vo {E : mm_E} {ω : Nat → Value} {c : Nat} {vo : Option Value} (hI : en_isI c = true) (hv : ∀ ρ, en_vo E ρ ω [c] vo) : ∃ r : Int32, vo = some (.int r) := by
  rcases hv (fun _ => 0) with ⟨e, -⟩ | ⟨c2, V, e, rfl, hv⟩
  · cases e
  · cases e
    obtain ⟨r, rfl⟩ := en_isI_int hI hv
    exact ⟨r, rfl⟩
theorem wl_b {E : mm_E} {ρ : Nat → Int32} {ω : Nat → Value} {v : Int32} (h : v.toInt = 0 ∨ v.toInt = 1) : en_v E ρ ω 83010348333840465921 (.int v) := by
  have hz := en_z_int v
  exact (en_v_rng (by decide) (by decide)).mpr ⟨_, rfl, by omega, by omega⟩
section WLM
variable {E : mm_E} {x y : Int32} {h : mm_H} {gs : List mm_F} {FIN : mm_C → Prop}
theorem wl_c_place1 : sf_cells (sf_w0 0 0) wl_H sa_m54.2.2.1 sa_m54.2.2.2.2.1 = true := by decide +kernel
theorem wl_c_place2 : sf_cells (sf_w0 0 0) sa_m54.2.2.2.1 wl_H sa_m54.2.2.2.2.1 = true := by decide +kernel
theorem wl_c_place3 {ρ : Nat → Int32} {ω : Nat → Value} : en_lr E ρ ω 1 sa_m54.2.1 [(0, .ref (E.1 + 0))] := by
  intro i hi
  have hc : i = 0 := by omega
  rcases hc with rfl
  · exact Or.inr ⟨_, rfl, by rw [show en_elt sa_m54.2.1 0 = 8589934592 from by decide +kernel]; exact (en_v_ref (by decide) (by decide)).mpr rfl⟩
theorem wl_c_place (hS : ∀ ρ, en_SA E ρ (wl_o x y) mt_SB) (h8 : ∃ q, E.2[8]? = some q) (hL : wl_W E wl_H x y h) (hd : gs.length ≤ 900) (kk : ∀ (h' : mm_H) (r : Int32), wl_W E wl_H x y h' → en_Good E mt_kds mt_P 1000 FIN (mm_back (some (.int r)) gs h')) : en_Good E mt_kds mt_P 1000 FIN ((250, 0, [(0, .ref (E.1 + 0))], [], 0, 0) :: gs, h, none) :=
  wl_call (M := sa_m54) (Hi := wl_H) (Ho := wl_H) (sa_k54 hS rd_JX (sf_MnA_ok h8)) wl_c_place1 wl_c_place2 (fun _ _ _ => rfl) (by decide) wl_H_n wl_H_n (cs := mt_250.1) (nL := 1) (dd := mt_250.2.2) rfl hL (fun ρ => wl_c_place3) (by omega) (fun vo h' hL2 hv => by
    obtain ⟨r, rfl⟩ := wl_vo (c := 73786976299133173759) (by decide +kernel) hv
    exact kk h' r hL2)
theorem wl_m_place1 : sf_cells (sf_w0 0 0) wl_H zb_m88.2.2.1 zb_m88.2.2.2.2.1 = true := by decide +kernel
theorem wl_m_place2 : sf_cells (sf_w0 0 0) zb_m88.2.2.2.1 wl_H zb_m88.2.2.2.2.1 = true := by decide +kernel
theorem wl_m_place3 {ρ : Nat → Int32} {ω : Nat → Value} : en_lr E ρ ω 1 zb_m88.2.1 [(0, .ref (E.1 + 88))] := by
  intro i hi
  have hc : i = 0 := by omega
  rcases hc with rfl
  · exact Or.inr ⟨_, rfl, by rw [show en_elt zb_m88.2.1 0 = 8589934680 from by decide +kernel]; exact (en_v_ref (by decide) (by decide)).mpr rfl⟩
theorem wl_m_place (hS : ∀ ρ, en_SA E ρ (wl_o x y) mt_SB) (hL : wl_W E wl_H x y h) (hd : gs.length ≤ 900) (kk : ∀ (h' : mm_H) (r : Int32), wl_W E wl_H x y h' → en_Good E mt_kds mt_P 1000 FIN (mm_back (some (.int r)) gs h')) : en_Good E mt_kds mt_P 1000 FIN ((71, 0, [(0, .ref (E.1 + 88))], [], 0, 0) :: gs, h, none) :=
  wl_call (M := zb_m88) (Hi := wl_H) (Ho := wl_H) (zb_k88 hS rd_JX rd_MnB) wl_m_place1 wl_m_place2 (fun _ _ _ => rfl) (by decide) wl_H_n wl_H_n (cs := mt_71.1) (nL := 1) (dd := mt_71.2.2) rfl hL (fun ρ => wl_m_place3) (by omega) (fun vo h' hL2 hv => by
    obtain ⟨r, rfl⟩ := wl_vo (c := 73786976299133173759) (by decide +kernel) hv
    exact kk h' r hL2)
theorem wl_c_man1 : sf_cells (sf_w0 0 0) wl_H sa_m56.2.2.1 sa_m56.2.2.2.2.1 = true := by decide +kernel
theorem wl_c_man2 : sf_cells (sf_w0 0 0) sa_m56.2.2.2.1 wl_H sa_m56.2.2.2.2.1 = true := by decide +kernel
theorem wl_c_man3 {ρ : Nat → Int32} {ω : Nat → Value} {a1 a2 : Int32} : en_lr E ρ ω 3 sa_m56.2.1 [(0, .ref (E.1 + 0)), (1, .int a1), (2, .int a2)] := by
  intro i hi
  have hc : i = 0 ∨ i = 1 ∨ i = 2 := by omega
  rcases hc with rfl | rfl | rfl
  · exact Or.inr ⟨_, rfl, by rw [show en_elt sa_m56.2.1 0 = 8589934592 from by decide +kernel]; exact (en_v_ref (by decide) (by decide)).mpr rfl⟩
  · exact Or.inr ⟨_, rfl, by rw [show en_elt sa_m56.2.1 1 = 73786976299133173759 from by decide +kernel]; exact en_any_v _⟩
  · exact Or.inr ⟨_, rfl, by rw [show en_elt sa_m56.2.1 2 = 73786976299133173759 from by decide +kernel]; exact en_any_v _⟩
theorem wl_c_man {a1 a2 : Int32} (hS : ∀ ρ, en_SA E ρ (wl_o x y) mt_SB) (h8 : ∃ q, E.2[8]? = some q) (hL : wl_W E wl_H x y h) (hd : gs.length ≤ 900) (kk : ∀ (h' : mm_H) (r : Int32), wl_W E wl_H x y h' → en_Good E mt_kds mt_P 1000 FIN (mm_back (some (.int r)) gs h')) : en_Good E mt_kds mt_P 1000 FIN ((244, 0, [(0, .ref (E.1 + 0)), (1, .int a1), (2, .int a2)], [], 0, 0) :: gs, h, none) :=
  wl_call (M := sa_m56) (Hi := wl_H) (Ho := wl_H) (sa_k56 hS rd_JX (sf_MnA_ok h8)) wl_c_man1 wl_c_man2 (fun _ _ _ => rfl) (by decide) wl_H_n wl_H_n (cs := mt_244.1) (nL := 3) (dd := mt_244.2.2) rfl hL (fun ρ => wl_c_man3) (by omega) (fun vo h' hL2 hv => by
    obtain ⟨r, rfl⟩ := wl_vo (c := 73786976299133173759) (by decide +kernel) hv
    exact kk h' r hL2)
theorem wl_m_man1 : sf_cells (sf_w0 0 0) wl_H zb_m92.2.2.1 zb_m92.2.2.2.2.1 = true := by decide +kernel
theorem wl_m_man2 : sf_cells (sf_w0 0 0) zb_m92.2.2.2.1 wl_H zb_m92.2.2.2.2.1 = true := by decide +kernel
theorem wl_m_man3 {ρ : Nat → Int32} {ω : Nat → Value} {a1 a2 : Int32} : en_lr E ρ ω 3 zb_m92.2.1 [(0, .ref (E.1 + 88)), (1, .int a1), (2, .int a2)] := by
  intro i hi
  have hc : i = 0 ∨ i = 1 ∨ i = 2 := by omega
  rcases hc with rfl | rfl | rfl
  · exact Or.inr ⟨_, rfl, by rw [show en_elt zb_m92.2.1 0 = 8589934680 from by decide +kernel]; exact (en_v_ref (by decide) (by decide)).mpr rfl⟩
  · exact Or.inr ⟨_, rfl, by rw [show en_elt zb_m92.2.1 1 = 73786976299133173759 from by decide +kernel]; exact en_any_v _⟩
  · exact Or.inr ⟨_, rfl, by rw [show en_elt zb_m92.2.1 2 = 73786976299133173759 from by decide +kernel]; exact en_any_v _⟩
theorem wl_m_man {a1 a2 : Int32} (hS : ∀ ρ, en_SA E ρ (wl_o x y) mt_SB) (hL : wl_W E wl_H x y h) (hd : gs.length ≤ 900) (kk : ∀ (h' : mm_H) (r : Int32), wl_W E wl_H x y h' → en_Good E mt_kds mt_P 1000 FIN (mm_back (some (.int r)) gs h')) : en_Good E mt_kds mt_P 1000 FIN ((63, 0, [(0, .ref (E.1 + 88)), (1, .int a1), (2, .int a2)], [], 0, 0) :: gs, h, none) :=
  wl_call (M := zb_m92) (Hi := wl_H) (Ho := wl_H) (zb_k92 hS rd_JX rd_MnB) wl_m_man1 wl_m_man2 (fun _ _ _ => rfl) (by decide) wl_H_n wl_H_n (cs := mt_63.1) (nL := 3) (dd := mt_63.2.2) rfl hL (fun ρ => wl_m_man3) (by omega) (fun vo h' hL2 hv => by
    obtain ⟨r, rfl⟩ := wl_vo (c := 73786976299133173759) (by decide +kernel) hv
    exact kk h' r hL2)
theorem wl_c_post1 : sf_cells (sf_w0 0 0) wl_H sa_m57.2.2.1 sa_m57.2.2.2.2.1 = true := by decide +kernel
theorem wl_c_post2 : sf_cells (sf_w0 0 0) sa_m57.2.2.2.1 wl_H sa_m57.2.2.2.2.1 = true := by decide +kernel
theorem wl_c_post3 {ρ : Nat → Int32} {ω : Nat → Value} {a1 : Int32} : en_lr E ρ ω 2 sa_m57.2.1 [(0, .ref (E.1 + 0)), (1, .int a1)] := by
  intro i hi
  have hc : i = 0 ∨ i = 1 := by omega
  rcases hc with rfl | rfl
  · exact Or.inr ⟨_, rfl, by rw [show en_elt sa_m57.2.1 0 = 8589934592 from by decide +kernel]; exact (en_v_ref (by decide) (by decide)).mpr rfl⟩
  · exact Or.inr ⟨_, rfl, by rw [show en_elt sa_m57.2.1 1 = 73786976299133173759 from by decide +kernel]; exact en_any_v _⟩
theorem wl_c_post {a1 : Int32} (hS : ∀ ρ, en_SA E ρ (wl_o x y) mt_SB) (h8 : ∃ q, E.2[8]? = some q) (hL : wl_W E wl_H x y h) (hd : gs.length ≤ 900) (kk : ∀ (h' : mm_H) (r : Int32), wl_W E wl_H x y h' → en_Good E mt_kds mt_P 1000 FIN (mm_back (some (.int r)) gs h')) : en_Good E mt_kds mt_P 1000 FIN ((251, 0, [(0, .ref (E.1 + 0)), (1, .int a1)], [], 0, 0) :: gs, h, none) :=
  wl_call (M := sa_m57) (Hi := wl_H) (Ho := wl_H) (sa_k57 hS rd_JX (sf_MnA_ok h8)) wl_c_post1 wl_c_post2 (fun _ _ _ => rfl) (by decide) wl_H_n wl_H_n (cs := mt_251.1) (nL := 2) (dd := mt_251.2.2) rfl hL (fun ρ => wl_c_post3) (by omega) (fun vo h' hL2 hv => by
    obtain ⟨r, rfl⟩ := wl_vo (c := 73786976299133173759) (by decide +kernel) hv
    exact kk h' r hL2)
theorem wl_m_post1 : sf_cells (sf_w0 0 0) wl_H zb_m93.2.2.1 zb_m93.2.2.2.2.1 = true := by decide +kernel
theorem wl_m_post2 : sf_cells (sf_w0 0 0) zb_m93.2.2.2.1 wl_H zb_m93.2.2.2.2.1 = true := by decide +kernel
theorem wl_m_post3 {ρ : Nat → Int32} {ω : Nat → Value} {a1 : Int32} : en_lr E ρ ω 2 zb_m93.2.1 [(0, .ref (E.1 + 88)), (1, .int a1)] := by
  intro i hi
  have hc : i = 0 ∨ i = 1 := by omega
  rcases hc with rfl | rfl
  · exact Or.inr ⟨_, rfl, by rw [show en_elt zb_m93.2.1 0 = 8589934680 from by decide +kernel]; exact (en_v_ref (by decide) (by decide)).mpr rfl⟩
  · exact Or.inr ⟨_, rfl, by rw [show en_elt zb_m93.2.1 1 = 73786976299133173759 from by decide +kernel]; exact en_any_v _⟩
theorem wl_m_post {a1 : Int32} (hS : ∀ ρ, en_SA E ρ (wl_o x y) mt_SB) (hL : wl_W E wl_H x y h) (hd : gs.length ≤ 900) (kk : ∀ (h' : mm_H) (r : Int32), wl_W E wl_H x y h' → en_Good E mt_kds mt_P 1000 FIN (mm_back (some (.int r)) gs h')) : en_Good E mt_kds mt_P 1000 FIN ((73, 0, [(0, .ref (E.1 + 88)), (1, .int a1)], [], 0, 0) :: gs, h, none) :=
  wl_call (M := zb_m93) (Hi := wl_H) (Ho := wl_H) (zb_k93 hS rd_JX rd_MnB) wl_m_post1 wl_m_post2 (fun _ _ _ => rfl) (by decide) wl_H_n wl_H_n (cs := mt_73.1) (nL := 2) (dd := mt_73.2.2) rfl hL (fun ρ => wl_m_post3) (by omega) (fun vo h' hL2 hv => by
    obtain ⟨r, rfl⟩ := wl_vo (c := 83010348325250531333) (by decide +kernel) hv
    exact kk h' r hL2)
theorem wl_c_ship1 : sf_cells (sf_w0 0 0) wl_H sa_m68.2.2.1 sa_m68.2.2.2.2.1 = true := by decide +kernel
theorem wl_c_ship2 : sf_cells (sf_w0 0 0) sa_m68.2.2.2.1 wl_H sa_m68.2.2.2.2.1 = true := by decide +kernel
theorem wl_c_ship3 {ρ : Nat → Int32} {ω : Nat → Value} {a1 : Int32} : en_lr E ρ ω 2 sa_m68.2.1 [(0, .ref (E.1 + 0)), (1, .int a1)] := by
  intro i hi
  have hc : i = 0 ∨ i = 1 := by omega
  rcases hc with rfl | rfl
  · exact Or.inr ⟨_, rfl, by rw [show en_elt sa_m68.2.1 0 = 8589934592 from by decide +kernel]; exact (en_v_ref (by decide) (by decide)).mpr rfl⟩
  · exact Or.inr ⟨_, rfl, by rw [show en_elt sa_m68.2.1 1 = 73786976299133173759 from by decide +kernel]; exact en_any_v _⟩
theorem wl_c_ship {a1 : Int32} (hS : ∀ ρ, en_SA E ρ (wl_o x y) mt_SB) (h8 : ∃ q, E.2[8]? = some q) (hL : wl_W E wl_H x y h) (hd : gs.length ≤ 900) (kk : ∀ (h' : mm_H) (r : Int32), wl_W E wl_H x y h' → en_Good E mt_kds mt_P 1000 FIN (mm_back (some (.int r)) gs h')) : en_Good E mt_kds mt_P 1000 FIN ((260, 0, [(0, .ref (E.1 + 0)), (1, .int a1)], [], 0, 0) :: gs, h, none) :=
  wl_call (M := sa_m68) (Hi := wl_H) (Ho := wl_H) (sa_k68 hS rd_JX (sf_MnA_ok h8)) wl_c_ship1 wl_c_ship2 (fun _ _ _ => rfl) (by decide) wl_H_n wl_H_n (cs := mt_260.1) (nL := 2) (dd := mt_260.2.2) rfl hL (fun ρ => wl_c_ship3) (by omega) (fun vo h' hL2 hv => by
    obtain ⟨r, rfl⟩ := wl_vo (c := 73786976299133173759) (by decide +kernel) hv
    exact kk h' r hL2)
theorem wl_m_ship1 : sf_cells (sf_w0 0 0) wl_H zb_m98.2.2.1 zb_m98.2.2.2.2.1 = true := by decide +kernel
theorem wl_m_ship2 : sf_cells (sf_w0 0 0) zb_m98.2.2.2.1 wl_H zb_m98.2.2.2.2.1 = true := by decide +kernel
theorem wl_m_ship3 {ρ : Nat → Int32} {ω : Nat → Value} {a1 : Int32} : en_lr E ρ ω 2 zb_m98.2.1 [(0, .ref (E.1 + 88)), (1, .int a1)] := by
  intro i hi
  have hc : i = 0 ∨ i = 1 := by omega
  rcases hc with rfl | rfl
  · exact Or.inr ⟨_, rfl, by rw [show en_elt zb_m98.2.1 0 = 8589934680 from by decide +kernel]; exact (en_v_ref (by decide) (by decide)).mpr rfl⟩
  · exact Or.inr ⟨_, rfl, by rw [show en_elt zb_m98.2.1 1 = 73786976299133173759 from by decide +kernel]; exact en_any_v _⟩
theorem wl_m_ship {a1 : Int32} (hS : ∀ ρ, en_SA E ρ (wl_o x y) mt_SB) (hL : wl_W E wl_H x y h) (hd : gs.length ≤ 900) (kk : ∀ (h' : mm_H) (r : Int32), wl_W E wl_H x y h' → en_Good E mt_kds mt_P 1000 FIN (mm_back (some (.int r)) gs h')) : en_Good E mt_kds mt_P 1000 FIN ((87, 0, [(0, .ref (E.1 + 88)), (1, .int a1)], [], 0, 0) :: gs, h, none) :=
  wl_call (M := zb_m98) (Hi := wl_H) (Ho := wl_H) (zb_k98 hS rd_JX rd_MnB) wl_m_ship1 wl_m_ship2 (fun _ _ _ => rfl) (by decide) wl_H_n wl_H_n (cs := mt_87.1) (nL := 2) (dd := mt_87.2.2) rfl hL (fun ρ => wl_m_ship3) (by omega) (fun vo h' hL2 hv => by
    obtain ⟨r, rfl⟩ := wl_vo (c := 73786976299133173759) (by decide +kernel) hv
    exact kk h' r hL2)
theorem wl_c_hide1 : sf_cells (sf_w0 0 0) wl_H sa_m70.2.2.1 sa_m70.2.2.2.2.1 = true := by decide +kernel
theorem wl_c_hide2 : sf_cells (sf_w0 0 0) sa_m70.2.2.2.1 wl_H sa_m70.2.2.2.2.1 = true := by decide +kernel
theorem wl_c_hide3 {ρ : Nat → Int32} {ω : Nat → Value} {a1 a2 : Int32} (ha2 : a2.toInt = 0 ∨ a2.toInt = 1) : en_lr E ρ ω 3 sa_m70.2.1 [(0, .ref (E.1 + 0)), (1, .int a1), (2, .int a2)] := by
  intro i hi
  have hc : i = 0 ∨ i = 1 ∨ i = 2 := by omega
  rcases hc with rfl | rfl | rfl
  · exact Or.inr ⟨_, rfl, by rw [show en_elt sa_m70.2.1 0 = 8589934592 from by decide +kernel]; exact (en_v_ref (by decide) (by decide)).mpr rfl⟩
  · exact Or.inr ⟨_, rfl, by rw [show en_elt sa_m70.2.1 1 = 73786976299133173759 from by decide +kernel]; exact en_any_v _⟩
  · exact Or.inr ⟨_, rfl, by rw [show en_elt sa_m70.2.1 2 = 83010348333840465921 from by decide +kernel]; exact wl_b ha2⟩
theorem wl_c_hide {a1 a2 : Int32} (ha2 : a2.toInt = 0 ∨ a2.toInt = 1) (hS : ∀ ρ, en_SA E ρ (wl_o x y) mt_SB) (h8 : ∃ q, E.2[8]? = some q) (hL : wl_W E wl_H x y h) (hd : gs.length ≤ 900) (kk : ∀ (h' : mm_H) (r : Int32), wl_W E wl_H x y h' → en_Good E mt_kds mt_P 1000 FIN (mm_back (some (.int r)) gs h')) : en_Good E mt_kds mt_P 1000 FIN ((235, 0, [(0, .ref (E.1 + 0)), (1, .int a1), (2, .int a2)], [], 0, 0) :: gs, h, none) :=
  wl_call (M := sa_m70) (Hi := wl_H) (Ho := wl_H) (sa_k70 hS rd_JX (sf_MnA_ok h8)) wl_c_hide1 wl_c_hide2 (fun _ _ _ => rfl) (by decide) wl_H_n wl_H_n (cs := mt_235.1) (nL := 3) (dd := mt_235.2.2) rfl hL (fun ρ => wl_c_hide3 ha2) (by omega) (fun vo h' hL2 hv => by
    obtain ⟨r, rfl⟩ := wl_vo (c := 83010348333840465921) (by decide +kernel) hv
    exact kk h' r hL2)
theorem wl_m_hide1 : sf_cells (sf_w0 0 0) wl_H zb_m101.2.2.1 zb_m101.2.2.2.2.1 = true := by decide +kernel
theorem wl_m_hide2 : sf_cells (sf_w0 0 0) zb_m101.2.2.2.1 wl_H zb_m101.2.2.2.2.1 = true := by decide +kernel
theorem wl_m_hide3 {ρ : Nat → Int32} {ω : Nat → Value} {a1 a2 : Int32} (ha2 : a2.toInt = 0 ∨ a2.toInt = 1) : en_lr E ρ ω 3 zb_m101.2.1 [(0, .ref (E.1 + 88)), (1, .int a1), (2, .int a2)] := by
  intro i hi
  have hc : i = 0 ∨ i = 1 ∨ i = 2 := by omega
  rcases hc with rfl | rfl | rfl
  · exact Or.inr ⟨_, rfl, by rw [show en_elt zb_m101.2.1 0 = 8589934680 from by decide +kernel]; exact (en_v_ref (by decide) (by decide)).mpr rfl⟩
  · exact Or.inr ⟨_, rfl, by rw [show en_elt zb_m101.2.1 1 = 73786976299133173759 from by decide +kernel]; exact en_any_v _⟩
  · exact Or.inr ⟨_, rfl, by rw [show en_elt zb_m101.2.1 2 = 83010348333840465921 from by decide +kernel]; exact wl_b ha2⟩
theorem wl_m_hide {a1 a2 : Int32} (ha2 : a2.toInt = 0 ∨ a2.toInt = 1) (hS : ∀ ρ, en_SA E ρ (wl_o x y) mt_SB) (hL : wl_W E wl_H x y h) (hd : gs.length ≤ 900) (kk : ∀ (h' : mm_H) (r : Int32), wl_W E wl_H x y h' → en_Good E mt_kds mt_P 1000 FIN (mm_back (some (.int r)) gs h')) : en_Good E mt_kds mt_P 1000 FIN ((40, 0, [(0, .ref (E.1 + 88)), (1, .int a1), (2, .int a2)], [], 0, 0) :: gs, h, none) :=
  wl_call (M := zb_m101) (Hi := wl_H) (Ho := wl_H) (zb_k101 hS rd_JX rd_MnB) wl_m_hide1 wl_m_hide2 (fun _ _ _ => rfl) (by decide) wl_H_n wl_H_n (cs := mt_40.1) (nL := 3) (dd := mt_40.2.2) rfl hL (fun ρ => wl_m_hide3 ha2) (by omega) (fun vo h' hL2 hv => by
    obtain ⟨r, rfl⟩ := wl_vo (c := 83010348333840465921) (by decide +kernel) hv
    exact kk h' r hL2)
theorem wl_c_stand1 : sf_cells (sf_w0 0 0) wl_H sa_m77.2.2.1 sa_m77.2.2.2.2.1 = true := by decide +kernel
theorem wl_c_stand2 : sf_cells (sf_w0 0 0) sa_m77.2.2.2.1 wl_H sa_m77.2.2.2.2.1 = true := by decide +kernel
theorem wl_c_stand3 {ρ : Nat → Int32} {ω : Nat → Value} {a1 a2 a3 a4 : Int32} : en_lr E ρ ω 5 sa_m77.2.1 [(0, .ref (E.1 + 0)), (1, .int a1), (2, .int a2), (3, .int a3), (4, .int a4)] := by
  intro i hi
  have hc : i = 0 ∨ i = 1 ∨ i = 2 ∨ i = 3 ∨ i = 4 := by omega
  rcases hc with rfl | rfl | rfl | rfl | rfl
  · exact Or.inr ⟨_, rfl, by rw [show en_elt sa_m77.2.1 0 = 8589934592 from by decide +kernel]; exact (en_v_ref (by decide) (by decide)).mpr rfl⟩
  · exact Or.inr ⟨_, rfl, by rw [show en_elt sa_m77.2.1 1 = 73786976299133173759 from by decide +kernel]; exact en_any_v _⟩
  · exact Or.inr ⟨_, rfl, by rw [show en_elt sa_m77.2.1 2 = 73786976299133173759 from by decide +kernel]; exact en_any_v _⟩
  · exact Or.inr ⟨_, rfl, by rw [show en_elt sa_m77.2.1 3 = 73786976299133173759 from by decide +kernel]; exact en_any_v _⟩
  · exact Or.inr ⟨_, rfl, by rw [show en_elt sa_m77.2.1 4 = 73786976299133173759 from by decide +kernel]; exact en_any_v _⟩
theorem wl_c_stand {a1 a2 a3 a4 : Int32} (hS : ∀ ρ, en_SA E ρ (wl_o x y) mt_SB) (h8 : ∃ q, E.2[8]? = some q) (hL : wl_W E wl_H x y h) (hd : gs.length ≤ 900) (kk : ∀ (h' : mm_H) (r : Int32), wl_W E wl_H x y h' → en_Good E mt_kds mt_P 1000 FIN (mm_back (some (.int r)) gs h')) : en_Good E mt_kds mt_P 1000 FIN ((262, 0, [(0, .ref (E.1 + 0)), (1, .int a1), (2, .int a2), (3, .int a3), (4, .int a4)], [], 0, 0) :: gs, h, none) :=
  wl_call (M := sa_m77) (Hi := wl_H) (Ho := wl_H) (sa_k77 hS rd_JX (sf_MnA_ok h8)) wl_c_stand1 wl_c_stand2 (fun _ _ _ => rfl) (by decide) wl_H_n wl_H_n (cs := mt_262.1) (nL := 5) (dd := mt_262.2.2) rfl hL (fun ρ => wl_c_stand3) (by omega) (fun vo h' hL2 hv => by
    obtain ⟨r, rfl⟩ := wl_vo (c := 73786976299133173759) (by decide +kernel) hv
    exact kk h' r hL2)
theorem wl_m_stand1 : sf_cells (sf_w0 0 0) wl_H zb_m107.2.2.1 zb_m107.2.2.2.2.1 = true := by decide +kernel
theorem wl_m_stand2 : sf_cells (sf_w0 0 0) zb_m107.2.2.2.1 wl_H zb_m107.2.2.2.2.1 = true := by decide +kernel
theorem wl_m_stand3 {ρ : Nat → Int32} {ω : Nat → Value} {a1 a2 a3 a4 : Int32} : en_lr E ρ ω 6 zb_m107.2.1 [(0, .ref (E.1 + 88)), (1, .int a1), (2, .int a2), (3, .int a3), (4, .int a4)] := by
  intro i hi
  have hc : i = 0 ∨ i = 1 ∨ i = 2 ∨ i = 3 ∨ i = 4 ∨ i = 5 := by omega
  rcases hc with rfl | rfl | rfl | rfl | rfl | rfl
  · exact Or.inr ⟨_, rfl, by rw [show en_elt zb_m107.2.1 0 = 8589934680 from by decide +kernel]; exact (en_v_ref (by decide) (by decide)).mpr rfl⟩
  · exact Or.inr ⟨_, rfl, by rw [show en_elt zb_m107.2.1 1 = 73786976299133173759 from by decide +kernel]; exact en_any_v _⟩
  · exact Or.inr ⟨_, rfl, by rw [show en_elt zb_m107.2.1 2 = 73786976299133173759 from by decide +kernel]; exact en_any_v _⟩
  · exact Or.inr ⟨_, rfl, by rw [show en_elt zb_m107.2.1 3 = 73786976299133173759 from by decide +kernel]; exact en_any_v _⟩
  · exact Or.inr ⟨_, rfl, by rw [show en_elt zb_m107.2.1 4 = 73786976299133173759 from by decide +kernel]; exact en_any_v _⟩
  · exact Or.inl (by decide +kernel)
theorem wl_m_stand {a1 a2 a3 a4 : Int32} (hS : ∀ ρ, en_SA E ρ (wl_o x y) mt_SB) (hL : wl_W E wl_H x y h) (hd : gs.length ≤ 900) (kk : ∀ (h' : mm_H) (r : Int32), wl_W E wl_H x y h' → en_Good E mt_kds mt_P 1000 FIN (mm_back (some (.int r)) gs h')) : en_Good E mt_kds mt_P 1000 FIN ((93, 0, [(0, .ref (E.1 + 88)), (1, .int a1), (2, .int a2), (3, .int a3), (4, .int a4)], [], 0, 0) :: gs, h, none) :=
  wl_call (M := zb_m107) (Hi := wl_H) (Ho := wl_H) (zb_k107 hS rd_JX rd_MnB) wl_m_stand1 wl_m_stand2 (fun _ _ _ => rfl) (by decide) wl_H_n wl_H_n (cs := mt_93.1) (nL := 6) (dd := mt_93.2.2) rfl hL (fun ρ => wl_m_stand3) (by omega) (fun vo h' hL2 hv => by
    obtain ⟨r, rfl⟩ := wl_vo (c := 83010348325250531331) (by decide +kernel) hv
    exact kk h' r hL2)
theorem wl_c_watches1 : sf_cells (sf_w0 0 0) wl_H sa_m84.2.2.1 sa_m84.2.2.2.2.1 = true := by decide +kernel
theorem wl_c_watches2 : sf_cells (sf_w0 0 0) sa_m84.2.2.2.1 wl_H sa_m84.2.2.2.2.1 = true := by decide +kernel
theorem wl_c_watches3 {ρ : Nat → Int32} {ω : Nat → Value} {a1 : Int32} : en_lr E ρ ω 2 sa_m84.2.1 [(0, .ref (E.1 + 0)), (1, .int a1)] := by
  intro i hi
  have hc : i = 0 ∨ i = 1 := by omega
  rcases hc with rfl | rfl
  · exact Or.inr ⟨_, rfl, by rw [show en_elt sa_m84.2.1 0 = 8589934592 from by decide +kernel]; exact (en_v_ref (by decide) (by decide)).mpr rfl⟩
  · exact Or.inr ⟨_, rfl, by rw [show en_elt sa_m84.2.1 1 = 73786976299133173759 from by decide +kernel]; exact en_any_v _⟩
theorem wl_c_watches {a1 : Int32} (hS : ∀ ρ, en_SA E ρ (wl_o x y) mt_SB) (h8 : ∃ q, E.2[8]? = some q) (hL : wl_W E wl_H x y h) (hd : gs.length ≤ 900) (kk : ∀ (h' : mm_H) (r : Int32), wl_W E wl_H x y h' → en_Good E mt_kds mt_P 1000 FIN (mm_back (some (.int r)) gs h')) : en_Good E mt_kds mt_P 1000 FIN ((271, 0, [(0, .ref (E.1 + 0)), (1, .int a1)], [], 0, 0) :: gs, h, none) :=
  wl_call (M := sa_m84) (Hi := wl_H) (Ho := wl_H) (sa_k84 hS rd_JX (sf_MnA_ok h8)) wl_c_watches1 wl_c_watches2 (fun _ _ _ => rfl) (by decide) wl_H_n wl_H_n (cs := mt_271.1) (nL := 2) (dd := mt_271.2.2) rfl hL (fun ρ => wl_c_watches3) (by omega) (fun vo h' hL2 hv => by
    obtain ⟨r, rfl⟩ := wl_vo (c := 83010348327398014975) (by decide +kernel) hv
    exact kk h' r hL2)
theorem wl_m_watches1 : sf_cells (sf_w0 0 0) wl_H zb_m174.2.2.1 zb_m174.2.2.2.2.1 = true := by decide +kernel
theorem wl_m_watches2 : sf_cells (sf_w0 0 0) zb_m174.2.2.2.1 wl_H zb_m174.2.2.2.2.1 = true := by decide +kernel
theorem wl_m_watches3 {ρ : Nat → Int32} {ω : Nat → Value} {a1 : Int32} : en_lr E ρ ω 3 zb_m174.2.1 [(0, .ref (E.1 + 88)), (1, .int a1)] := by
  intro i hi
  have hc : i = 0 ∨ i = 1 ∨ i = 2 := by omega
  rcases hc with rfl | rfl | rfl
  · exact Or.inr ⟨_, rfl, by rw [show en_elt zb_m174.2.1 0 = 8589934680 from by decide +kernel]; exact (en_v_ref (by decide) (by decide)).mpr rfl⟩
  · exact Or.inr ⟨_, rfl, by rw [show en_elt zb_m174.2.1 1 = 73786976299133173759 from by decide +kernel]; exact en_any_v _⟩
  · exact Or.inl (by decide +kernel)
theorem wl_m_watches {a1 : Int32} (hS : ∀ ρ, en_SA E ρ (wl_o x y) mt_SB) (hL : wl_W E wl_H x y h) (hd : gs.length ≤ 900) (kk : ∀ (h' : mm_H) (r : Int32), wl_W E wl_H x y h' → en_Good E mt_kds mt_P 1000 FIN (mm_back (some (.int r)) gs h')) : en_Good E mt_kds mt_P 1000 FIN ((107, 0, [(0, .ref (E.1 + 88)), (1, .int a1)], [], 0, 0) :: gs, h, none) :=
  wl_call (M := zb_m174) (Hi := wl_H) (Ho := wl_H) (zb_k174 hS rd_JX rd_MnB) wl_m_watches1 wl_m_watches2 (fun _ _ _ => rfl) (by decide) wl_H_n wl_H_n (cs := mt_107.1) (nL := 3) (dd := mt_107.2.2) rfl hL (fun ρ => wl_m_watches3) (by omega) (fun vo h' hL2 hv => by
    obtain ⟨r, rfl⟩ := wl_vo (c := 83010348325250531388) (by decide +kernel) hv
    exact kk h' r hL2)
theorem wl_c_undo1 : sf_cells (sf_w0 0 0) wl_H sa_m85.2.2.1 sa_m85.2.2.2.2.1 = true := by decide +kernel
theorem wl_c_undo2 : sf_cells (sf_w0 0 0) sa_m85.2.2.2.1 wl_H sa_m85.2.2.2.2.1 = true := by decide +kernel
theorem wl_c_undo3 {ρ : Nat → Int32} {ω : Nat → Value} : en_lr E ρ ω 1 sa_m85.2.1 [(0, .ref (E.1 + 0))] := by
  intro i hi
  have hc : i = 0 := by omega
  rcases hc with rfl
  · exact Or.inr ⟨_, rfl, by rw [show en_elt sa_m85.2.1 0 = 8589934592 from by decide +kernel]; exact (en_v_ref (by decide) (by decide)).mpr rfl⟩
theorem wl_c_undo (hS : ∀ ρ, en_SA E ρ (wl_o x y) mt_SB) (h8 : ∃ q, E.2[8]? = some q) (hL : wl_W E wl_H x y h) (hd : gs.length ≤ 900) (kk : ∀ (h' : mm_H) (r : Int32), wl_W E wl_H x y h' → en_Good E mt_kds mt_P 1000 FIN (mm_back (some (.int r)) gs h')) : en_Good E mt_kds mt_P 1000 FIN ((269, 0, [(0, .ref (E.1 + 0))], [], 0, 0) :: gs, h, none) :=
  wl_call (M := sa_m85) (Hi := wl_H) (Ho := wl_H) (sa_k85 hS rd_JX (sf_MnA_ok h8)) wl_c_undo1 wl_c_undo2 (fun _ _ _ => rfl) (by decide) wl_H_n wl_H_n (cs := mt_269.1) (nL := 1) (dd := mt_269.2.2) rfl hL (fun ρ => wl_c_undo3) (by omega) (fun vo h' hL2 hv => by
    obtain ⟨r, rfl⟩ := wl_vo (c := 83010348333840465921) (by decide +kernel) hv
    exact kk h' r hL2)
theorem wl_m_undo1 : sf_cells (sf_w0 0 0) wl_H zb_m175.2.2.1 zb_m175.2.2.2.2.1 = true := by decide +kernel
theorem wl_m_undo2 : sf_cells (sf_w0 0 0) zb_m175.2.2.2.1 wl_H zb_m175.2.2.2.2.1 = true := by decide +kernel
theorem wl_m_undo3 {ρ : Nat → Int32} {ω : Nat → Value} : en_lr E ρ ω 2 zb_m175.2.1 [(0, .ref (E.1 + 88))] := by
  intro i hi
  have hc : i = 0 ∨ i = 1 := by omega
  rcases hc with rfl | rfl
  · exact Or.inr ⟨_, rfl, by rw [show en_elt zb_m175.2.1 0 = 8589934680 from by decide +kernel]; exact (en_v_ref (by decide) (by decide)).mpr rfl⟩
  · exact Or.inl (by decide +kernel)
theorem wl_m_undo (hS : ∀ ρ, en_SA E ρ (wl_o x y) mt_SB) (hL : wl_W E wl_H x y h) (hd : gs.length ≤ 900) (kk : ∀ (h' : mm_H) (r : Int32), wl_W E wl_H x y h' → en_Good E mt_kds mt_P 1000 FIN (mm_back (some (.int r)) gs h')) : en_Good E mt_kds mt_P 1000 FIN ((104, 0, [(0, .ref (E.1 + 88))], [], 0, 0) :: gs, h, none) :=
  wl_call (M := zb_m175) (Hi := wl_H) (Ho := wl_H) (zb_k175 hS rd_JX rd_MnB) wl_m_undo1 wl_m_undo2 (fun _ _ _ => rfl) (by decide) wl_H_n wl_H_n (cs := mt_104.1) (nL := 2) (dd := mt_104.2.2) rfl hL (fun ρ => wl_m_undo3) (by omega) (fun vo h' hL2 hv => by
    obtain ⟨r, rfl⟩ := wl_vo (c := 83010348333840465921) (by decide +kernel) hv
    exact kk h' r hL2)
theorem wl_c_likely1 : sf_cells (sf_w0 0 0) wl_H sa_m88.2.2.1 sa_m88.2.2.2.2.1 = true := by decide +kernel
theorem wl_c_likely2 : sf_cells (sf_w0 0 0) sa_m88.2.2.2.1 wl_H sa_m88.2.2.2.2.1 = true := by decide +kernel
theorem wl_c_likely3 {ρ : Nat → Int32} {ω : Nat → Value} {a1 a2 a3 : Int32} (ha3 : a3.toInt = 0 ∨ a3.toInt = 1) : en_lr E ρ ω 4 sa_m88.2.1 [(0, .ref (E.1 + 0)), (1, .int a1), (2, .int a2), (3, .int a3)] := by
  intro i hi
  have hc : i = 0 ∨ i = 1 ∨ i = 2 ∨ i = 3 := by omega
  rcases hc with rfl | rfl | rfl | rfl
  · exact Or.inr ⟨_, rfl, by rw [show en_elt sa_m88.2.1 0 = 8589934592 from by decide +kernel]; exact (en_v_ref (by decide) (by decide)).mpr rfl⟩
  · exact Or.inr ⟨_, rfl, by rw [show en_elt sa_m88.2.1 1 = 73786976299133173759 from by decide +kernel]; exact en_any_v _⟩
  · exact Or.inr ⟨_, rfl, by rw [show en_elt sa_m88.2.1 2 = 73786976299133173759 from by decide +kernel]; exact en_any_v _⟩
  · exact Or.inr ⟨_, rfl, by rw [show en_elt sa_m88.2.1 3 = 83010348333840465921 from by decide +kernel]; exact wl_b ha3⟩
theorem wl_c_likely {a1 a2 a3 : Int32} (ha3 : a3.toInt = 0 ∨ a3.toInt = 1) (hS : ∀ ρ, en_SA E ρ (wl_o x y) mt_SB) (h8 : ∃ q, E.2[8]? = some q) (hL : wl_W E wl_H x y h) (hd : gs.length ≤ 900) (kk : ∀ (h' : mm_H) (r : Int32), wl_W E wl_H x y h' → en_Good E mt_kds mt_P 1000 FIN (mm_back (some (.int r)) gs h')) : en_Good E mt_kds mt_P 1000 FIN ((242, 0, [(0, .ref (E.1 + 0)), (1, .int a1), (2, .int a2), (3, .int a3)], [], 0, 0) :: gs, h, none) :=
  wl_call (M := sa_m88) (Hi := wl_H) (Ho := wl_H) (sa_k88 hS rd_JX (sf_MnA_ok h8)) wl_c_likely1 wl_c_likely2 (fun _ _ _ => rfl) (by decide) wl_H_n wl_H_n (cs := mt_242.1) (nL := 4) (dd := mt_242.2.2) rfl hL (fun ρ => wl_c_likely3 ha3) (by omega) (fun vo h' hL2 hv => by
    obtain ⟨r, rfl⟩ := wl_vo (c := 73786976299133173759) (by decide +kernel) hv
    exact kk h' r hL2)
theorem wl_m_likely1 : sf_cells (sf_w0 0 0) wl_H zb_m190.2.2.1 zb_m190.2.2.2.2.1 = true := by decide +kernel
theorem wl_m_likely2 : sf_cells (sf_w0 0 0) zb_m190.2.2.2.1 wl_H zb_m190.2.2.2.2.1 = true := by decide +kernel
theorem wl_m_likely3 {ρ : Nat → Int32} {ω : Nat → Value} {a1 a2 a3 : Int32} (ha3 : a3.toInt = 0 ∨ a3.toInt = 1) : en_lr E ρ ω 4 zb_m190.2.1 [(0, .ref (E.1 + 88)), (1, .int a1), (2, .int a2), (3, .int a3)] := by
  intro i hi
  have hc : i = 0 ∨ i = 1 ∨ i = 2 ∨ i = 3 := by omega
  rcases hc with rfl | rfl | rfl | rfl
  · exact Or.inr ⟨_, rfl, by rw [show en_elt zb_m190.2.1 0 = 8589934680 from by decide +kernel]; exact (en_v_ref (by decide) (by decide)).mpr rfl⟩
  · exact Or.inr ⟨_, rfl, by rw [show en_elt zb_m190.2.1 1 = 73786976299133173759 from by decide +kernel]; exact en_any_v _⟩
  · exact Or.inr ⟨_, rfl, by rw [show en_elt zb_m190.2.1 2 = 73786976299133173759 from by decide +kernel]; exact en_any_v _⟩
  · exact Or.inr ⟨_, rfl, by rw [show en_elt zb_m190.2.1 3 = 83010348333840465921 from by decide +kernel]; exact wl_b ha3⟩
theorem wl_m_likely {a1 a2 a3 : Int32} (ha3 : a3.toInt = 0 ∨ a3.toInt = 1) (hS : ∀ ρ, en_SA E ρ (wl_o x y) mt_SB) (hL : wl_W E wl_H x y h) (hd : gs.length ≤ 900) (kk : ∀ (h' : mm_H) (r : Int32), wl_W E wl_H x y h' → en_Good E mt_kds mt_P 1000 FIN (mm_back (some (.int r)) gs h')) : en_Good E mt_kds mt_P 1000 FIN ((58, 0, [(0, .ref (E.1 + 88)), (1, .int a1), (2, .int a2), (3, .int a3)], [], 0, 0) :: gs, h, none) :=
  wl_call (M := zb_m190) (Hi := wl_H) (Ho := wl_H) (zb_k190 hS rd_JX rd_MnB) wl_m_likely1 wl_m_likely2 (fun _ _ _ => rfl) (by decide) wl_H_n wl_H_n (cs := mt_58.1) (nL := 4) (dd := mt_58.2.2) rfl hL (fun ρ => wl_m_likely3 ha3) (by omega) (fun vo h' hL2 hv => by
    obtain ⟨r, rfl⟩ := wl_vo (c := 73786976299133173759) (by decide +kernel) hv
    exact kk h' r hL2)
theorem wl_c_orders1 : sf_cells (sf_w0 0 0) wl_H sa_m90.2.2.1 sa_m90.2.2.2.2.1 = true := by decide +kernel
theorem wl_c_orders2 : sf_cells (sf_w0 0 0) sa_m90.2.2.2.1 wl_H sa_m90.2.2.2.2.1 = true := by decide +kernel
theorem wl_c_orders3 {ρ : Nat → Int32} {ω : Nat → Value} {a1 : Int32} : en_lr E ρ ω 2 sa_m90.2.1 [(0, .ref (E.1 + 0)), (1, .int a1)] := by
  intro i hi
  have hc : i = 0 ∨ i = 1 := by omega
  rcases hc with rfl | rfl
  · exact Or.inr ⟨_, rfl, by rw [show en_elt sa_m90.2.1 0 = 8589934592 from by decide +kernel]; exact (en_v_ref (by decide) (by decide)).mpr rfl⟩
  · exact Or.inr ⟨_, rfl, by rw [show en_elt sa_m90.2.1 1 = 73786976299133173759 from by decide +kernel]; exact en_any_v _⟩
theorem wl_c_orders {a1 : Int32} (hS : ∀ ρ, en_SA E ρ (wl_o x y) mt_SB) (h8 : ∃ q, E.2[8]? = some q) (hL : wl_W E wl_H x y h) (hd : gs.length ≤ 900) (kk : ∀ (h' : mm_H) (r : Int32), wl_W E wl_H x y h' → en_Good E mt_kds mt_P 1000 FIN (mm_back (some (.int r)) gs h')) : en_Good E mt_kds mt_P 1000 FIN ((249, 0, [(0, .ref (E.1 + 0)), (1, .int a1)], [], 0, 0) :: gs, h, none) :=
  wl_call (M := sa_m90) (Hi := wl_H) (Ho := wl_H) (sa_k90 hS rd_JX (sf_MnA_ok h8)) wl_c_orders1 wl_c_orders2 (fun _ _ _ => rfl) (by decide) wl_H_n wl_H_n (cs := mt_249.1) (nL := 2) (dd := mt_249.2.2) rfl hL (fun ρ => wl_c_orders3) (by omega) (fun vo h' hL2 hv => by
    obtain ⟨r, rfl⟩ := wl_vo (c := 83010348295185760355) (by decide +kernel) hv
    exact kk h' r hL2)
theorem wl_m_orders1 : sf_cells (sf_w0 0 0) wl_H zb_m193.2.2.1 zb_m193.2.2.2.2.1 = true := by decide +kernel
theorem wl_m_orders2 : sf_cells (sf_w0 0 0) zb_m193.2.2.2.1 wl_H zb_m193.2.2.2.2.1 = true := by decide +kernel
theorem wl_m_orders3 {ρ : Nat → Int32} {ω : Nat → Value} {a1 : Int32} : en_lr E ρ ω 2 zb_m193.2.1 [(0, .ref (E.1 + 88)), (1, .int a1)] := by
  intro i hi
  have hc : i = 0 ∨ i = 1 := by omega
  rcases hc with rfl | rfl
  · exact Or.inr ⟨_, rfl, by rw [show en_elt zb_m193.2.1 0 = 8589934680 from by decide +kernel]; exact (en_v_ref (by decide) (by decide)).mpr rfl⟩
  · exact Or.inr ⟨_, rfl, by rw [show en_elt zb_m193.2.1 1 = 73786976299133173759 from by decide +kernel]; exact en_any_v _⟩
theorem wl_m_orders {a1 : Int32} (hS : ∀ ρ, en_SA E ρ (wl_o x y) mt_SB) (hL : wl_W E wl_H x y h) (hd : gs.length ≤ 900) (kk : ∀ (h' : mm_H) (r : Int32), wl_W E wl_H x y h' → en_Good E mt_kds mt_P 1000 FIN (mm_back (some (.int r)) gs h')) : en_Good E mt_kds mt_P 1000 FIN ((69, 0, [(0, .ref (E.1 + 88)), (1, .int a1)], [], 0, 0) :: gs, h, none) :=
  wl_call (M := zb_m193) (Hi := wl_H) (Ho := wl_H) (zb_k193 hS rd_JX rd_MnB) wl_m_orders1 wl_m_orders2 (fun _ _ _ => rfl) (by decide) wl_H_n wl_H_n (cs := mt_69.1) (nL := 2) (dd := mt_69.2.2) rfl hL (fun ρ => wl_m_orders3) (by omega) (fun vo h' hL2 hv => by
    obtain ⟨r, rfl⟩ := wl_vo (c := 83010348329545498627) (by decide +kernel) hv
    exact kk h' r hL2)
theorem wl_c_mean1 : sf_cells (sf_w0 0 0) wl_H sa_m94.2.2.1 sa_m94.2.2.2.2.1 = true := by decide +kernel
theorem wl_c_mean2 : sf_cells (sf_w0 0 0) sa_m94.2.2.2.1 wl_H sa_m94.2.2.2.2.1 = true := by decide +kernel
theorem wl_c_mean3 {ρ : Nat → Int32} {ω : Nat → Value} {a1 a2 a3 : Int32} (ha3 : a3.toInt = 0 ∨ a3.toInt = 1) : en_lr E ρ ω 4 sa_m94.2.1 [(0, .ref (E.1 + 0)), (1, .int a1), (2, .int a2), (3, .int a3)] := by
  intro i hi
  have hc : i = 0 ∨ i = 1 ∨ i = 2 ∨ i = 3 := by omega
  rcases hc with rfl | rfl | rfl | rfl
  · exact Or.inr ⟨_, rfl, by rw [show en_elt sa_m94.2.1 0 = 8589934592 from by decide +kernel]; exact (en_v_ref (by decide) (by decide)).mpr rfl⟩
  · exact Or.inr ⟨_, rfl, by rw [show en_elt sa_m94.2.1 1 = 73786976299133173759 from by decide +kernel]; exact en_any_v _⟩
  · exact Or.inr ⟨_, rfl, by rw [show en_elt sa_m94.2.1 2 = 73786976299133173759 from by decide +kernel]; exact en_any_v _⟩
  · exact Or.inr ⟨_, rfl, by rw [show en_elt sa_m94.2.1 3 = 83010348333840465921 from by decide +kernel]; exact wl_b ha3⟩
theorem wl_c_mean {a1 a2 a3 : Int32} (ha3 : a3.toInt = 0 ∨ a3.toInt = 1) (hS : ∀ ρ, en_SA E ρ (wl_o x y) mt_SB) (h8 : ∃ q, E.2[8]? = some q) (hL : wl_W E wl_H x y h) (hd : gs.length ≤ 900) (kk : ∀ (h' : mm_H) (r : Int32), wl_W E wl_H x y h' → en_Good E mt_kds mt_P 1000 FIN (mm_back (some (.int r)) gs h')) : en_Good E mt_kds mt_P 1000 FIN ((246, 0, [(0, .ref (E.1 + 0)), (1, .int a1), (2, .int a2), (3, .int a3)], [], 0, 0) :: gs, h, none) :=
  wl_call (M := sa_m94) (Hi := wl_H) (Ho := wl_H) (sa_k94 hS rd_JX (sf_MnA_ok h8)) wl_c_mean1 wl_c_mean2 (fun _ _ _ => rfl) (by decide) wl_H_n wl_H_n (cs := mt_246.1) (nL := 4) (dd := mt_246.2.2) rfl hL (fun ρ => wl_c_mean3 ha3) (by omega) (fun vo h' hL2 hv => by
    obtain ⟨r, rfl⟩ := wl_vo (c := 73786976299133173759) (by decide +kernel) hv
    exact kk h' r hL2)
theorem wl_m_mean1 : sf_cells (sf_w0 0 0) wl_H zb_m219.2.2.1 zb_m219.2.2.2.2.1 = true := by decide +kernel
theorem wl_m_mean2 : sf_cells (sf_w0 0 0) zb_m219.2.2.2.1 wl_H zb_m219.2.2.2.2.1 = true := by decide +kernel
theorem wl_m_mean3 {ρ : Nat → Int32} {ω : Nat → Value} {a1 a2 a3 : Int32} (ha3 : a3.toInt = 0 ∨ a3.toInt = 1) : en_lr E ρ ω 6 zb_m219.2.1 [(0, .ref (E.1 + 88)), (1, .int a1), (2, .int a2), (3, .int a3)] := by
  intro i hi
  have hc : i = 0 ∨ i = 1 ∨ i = 2 ∨ i = 3 ∨ i = 4 ∨ i = 5 := by omega
  rcases hc with rfl | rfl | rfl | rfl | rfl | rfl
  · exact Or.inr ⟨_, rfl, by rw [show en_elt zb_m219.2.1 0 = 8589934680 from by decide +kernel]; exact (en_v_ref (by decide) (by decide)).mpr rfl⟩
  · exact Or.inr ⟨_, rfl, by rw [show en_elt zb_m219.2.1 1 = 73786976299133173759 from by decide +kernel]; exact en_any_v _⟩
  · exact Or.inr ⟨_, rfl, by rw [show en_elt zb_m219.2.1 2 = 73786976299133173759 from by decide +kernel]; exact en_any_v _⟩
  · exact Or.inr ⟨_, rfl, by rw [show en_elt zb_m219.2.1 3 = 83010348333840465921 from by decide +kernel]; exact wl_b ha3⟩
  · exact Or.inl (by decide +kernel)
  · exact Or.inl (by decide +kernel)
theorem wl_m_mean {a1 a2 a3 : Int32} (ha3 : a3.toInt = 0 ∨ a3.toInt = 1) (hS : ∀ ρ, en_SA E ρ (wl_o x y) mt_SB) (hL : wl_W E wl_H x y h) (hd : gs.length ≤ 900) (kk : ∀ (h' : mm_H) (r : Int32), wl_W E wl_H x y h' → en_Good E mt_kds mt_P 1000 FIN (mm_back (some (.int r)) gs h')) : en_Good E mt_kds mt_P 1000 FIN ((64, 0, [(0, .ref (E.1 + 88)), (1, .int a1), (2, .int a2), (3, .int a3)], [], 0, 0) :: gs, h, none) :=
  wl_call (M := zb_m219) (Hi := wl_H) (Ho := wl_H) (zb_k219 hS rd_JX rd_MnB) wl_m_mean1 wl_m_mean2 (fun _ _ _ => rfl) (by decide) wl_H_n wl_H_n (cs := mt_64.1) (nL := 6) (dd := mt_64.2.2) rfl hL (fun ρ => wl_m_mean3 ha3) (by omega) (fun vo h' hL2 hv => by
    obtain ⟨r, rfl⟩ := wl_vo (c := 73786976299133173759) (by decide +kernel) hv
    exact kk h' r hL2)
theorem wl_c_most1 : sf_cells (sf_w0 0 0) wl_H sa_m96.2.2.1 sa_m96.2.2.2.2.1 = true := by decide +kernel
theorem wl_c_most2 : sf_cells (sf_w0 0 0) sa_m96.2.2.2.1 wl_H sa_m96.2.2.2.2.1 = true := by decide +kernel
theorem wl_c_most3 {ρ : Nat → Int32} {ω : Nat → Value} {a1 a2 a3 : Int32} (ha3 : a3.toInt = 0 ∨ a3.toInt = 1) : en_lr E ρ ω 4 sa_m96.2.1 [(0, .ref (E.1 + 0)), (1, .int a1), (2, .int a2), (3, .int a3)] := by
  intro i hi
  have hc : i = 0 ∨ i = 1 ∨ i = 2 ∨ i = 3 := by omega
  rcases hc with rfl | rfl | rfl | rfl
  · exact Or.inr ⟨_, rfl, by rw [show en_elt sa_m96.2.1 0 = 8589934592 from by decide +kernel]; exact (en_v_ref (by decide) (by decide)).mpr rfl⟩
  · exact Or.inr ⟨_, rfl, by rw [show en_elt sa_m96.2.1 1 = 73786976299133173759 from by decide +kernel]; exact en_any_v _⟩
  · exact Or.inr ⟨_, rfl, by rw [show en_elt sa_m96.2.1 2 = 73786976299133173759 from by decide +kernel]; exact en_any_v _⟩
  · exact Or.inr ⟨_, rfl, by rw [show en_elt sa_m96.2.1 3 = 83010348333840465921 from by decide +kernel]; exact wl_b ha3⟩
theorem wl_c_most {a1 a2 a3 : Int32} (ha3 : a3.toInt = 0 ∨ a3.toInt = 1) (hS : ∀ ρ, en_SA E ρ (wl_o x y) mt_SB) (h8 : ∃ q, E.2[8]? = some q) (hL : wl_W E wl_H x y h) (hd : gs.length ≤ 900) (kk : ∀ (h' : mm_H) (r : Int32), wl_W E wl_H x y h' → en_Good E mt_kds mt_P 1000 FIN (mm_back (some (.int r)) gs h')) : en_Good E mt_kds mt_P 1000 FIN ((247, 0, [(0, .ref (E.1 + 0)), (1, .int a1), (2, .int a2), (3, .int a3)], [], 0, 0) :: gs, h, none) :=
  wl_call (M := sa_m96) (Hi := wl_H) (Ho := wl_H) (sa_k96 hS rd_JX (sf_MnA_ok h8)) wl_c_most1 wl_c_most2 (fun _ _ _ => rfl) (by decide) wl_H_n wl_H_n (cs := mt_247.1) (nL := 4) (dd := mt_247.2.2) rfl hL (fun ρ => wl_c_most3 ha3) (by omega) (fun vo h' hL2 hv => by
    obtain ⟨r, rfl⟩ := wl_vo (c := 83009918837110866019) (by decide +kernel) hv
    exact kk h' r hL2)
theorem wl_m_most1 : sf_cells (sf_w0 0 0) wl_H zb_m220.2.2.1 zb_m220.2.2.2.2.1 = true := by decide +kernel
theorem wl_m_most2 : sf_cells (sf_w0 0 0) zb_m220.2.2.2.1 wl_H zb_m220.2.2.2.2.1 = true := by decide +kernel
theorem wl_m_most3 {ρ : Nat → Int32} {ω : Nat → Value} {a1 a2 a3 : Int32} (ha3 : a3.toInt = 0 ∨ a3.toInt = 1) : en_lr E ρ ω 7 zb_m220.2.1 [(0, .ref (E.1 + 88)), (1, .int a1), (2, .int a2), (3, .int a3)] := by
  intro i hi
  have hc : i = 0 ∨ i = 1 ∨ i = 2 ∨ i = 3 ∨ i = 4 ∨ i = 5 ∨ i = 6 := by omega
  rcases hc with rfl | rfl | rfl | rfl | rfl | rfl | rfl
  · exact Or.inr ⟨_, rfl, by rw [show en_elt zb_m220.2.1 0 = 8589934680 from by decide +kernel]; exact (en_v_ref (by decide) (by decide)).mpr rfl⟩
  · exact Or.inr ⟨_, rfl, by rw [show en_elt zb_m220.2.1 1 = 73786976299133173759 from by decide +kernel]; exact en_any_v _⟩
  · exact Or.inr ⟨_, rfl, by rw [show en_elt zb_m220.2.1 2 = 73786976299133173759 from by decide +kernel]; exact en_any_v _⟩
  · exact Or.inr ⟨_, rfl, by rw [show en_elt zb_m220.2.1 3 = 83010348333840465921 from by decide +kernel]; exact wl_b ha3⟩
  · exact Or.inl (by decide +kernel)
  · exact Or.inl (by decide +kernel)
  · exact Or.inl (by decide +kernel)
theorem wl_m_most {a1 a2 a3 : Int32} (ha3 : a3.toInt = 0 ∨ a3.toInt = 1) (hS : ∀ ρ, en_SA E ρ (wl_o x y) mt_SB) (hL : wl_W E wl_H x y h) (hd : gs.length ≤ 900) (kk : ∀ (h' : mm_H) (r : Int32), wl_W E wl_H x y h' → en_Good E mt_kds mt_P 1000 FIN (mm_back (some (.int r)) gs h')) : en_Good E mt_kds mt_P 1000 FIN ((66, 0, [(0, .ref (E.1 + 88)), (1, .int a1), (2, .int a2), (3, .int a3)], [], 0, 0) :: gs, h, none) :=
  wl_call (M := zb_m220) (Hi := wl_H) (Ho := wl_H) (zb_k220 hS rd_JX rd_MnB) wl_m_most1 wl_m_most2 (fun _ _ _ => rfl) (by decide) wl_H_n wl_H_n (cs := mt_66.1) (nL := 7) (dd := mt_66.2.2) rfl hL (fun ρ => wl_m_most3 ha3) (by omega) (fun vo h' hL2 hv => by
    obtain ⟨r, rfl⟩ := wl_vo (c := 83009918837110866019) (by decide +kernel) hv
    exact kk h' r hL2)
theorem wl_c_risk1 : sf_cells (sf_w0 0 0) wl_H sa_m100.2.2.1 sa_m100.2.2.2.2.1 = true := by decide +kernel
theorem wl_c_risk2 : sf_cells (sf_w0 0 0) sa_m100.2.2.2.1 wl_H sa_m100.2.2.2.2.1 = true := by decide +kernel
theorem wl_c_risk3 {ρ : Nat → Int32} {ω : Nat → Value} {a1 a2 a3 : Int32} (ha3 : a3.toInt = 0 ∨ a3.toInt = 1) : en_lr E ρ ω 4 sa_m100.2.1 [(0, .ref (E.1 + 0)), (1, .int a1), (2, .int a2), (3, .int a3)] := by
  intro i hi
  have hc : i = 0 ∨ i = 1 ∨ i = 2 ∨ i = 3 := by omega
  rcases hc with rfl | rfl | rfl | rfl
  · exact Or.inr ⟨_, rfl, by rw [show en_elt sa_m100.2.1 0 = 8589934592 from by decide +kernel]; exact (en_v_ref (by decide) (by decide)).mpr rfl⟩
  · exact Or.inr ⟨_, rfl, by rw [show en_elt sa_m100.2.1 1 = 73786976299133173759 from by decide +kernel]; exact en_any_v _⟩
  · exact Or.inr ⟨_, rfl, by rw [show en_elt sa_m100.2.1 2 = 73786976299133173759 from by decide +kernel]; exact en_any_v _⟩
  · exact Or.inr ⟨_, rfl, by rw [show en_elt sa_m100.2.1 3 = 83010348333840465921 from by decide +kernel]; exact wl_b ha3⟩
theorem wl_c_risk {a1 a2 a3 : Int32} (ha3 : a3.toInt = 0 ∨ a3.toInt = 1) (hS : ∀ ρ, en_SA E ρ (wl_o x y) mt_SB) (h8 : ∃ q, E.2[8]? = some q) (hL : wl_W E wl_H x y h) (hd : gs.length ≤ 900) (kk : ∀ (h' : mm_H) (r : Int32), wl_W E wl_H x y h' → en_Good E mt_kds mt_P 1000 FIN (mm_back (some (.int r)) gs h')) : en_Good E mt_kds mt_P 1000 FIN ((255, 0, [(0, .ref (E.1 + 0)), (1, .int a1), (2, .int a2), (3, .int a3)], [], 0, 0) :: gs, h, none) :=
  wl_call (M := sa_m100) (Hi := wl_H) (Ho := wl_H) (sa_k100 hS rd_JX (sf_MnA_ok h8)) wl_c_risk1 wl_c_risk2 (fun _ _ _ => rfl) (by decide) wl_H_n wl_H_n (cs := mt_255.1) (nL := 4) (dd := mt_255.2.2) rfl hL (fun ρ => wl_c_risk3 ha3) (by omega) (fun vo h' hL2 hv => by
    obtain ⟨r, rfl⟩ := wl_vo (c := 73786976299133173759) (by decide +kernel) hv
    exact kk h' r hL2)
theorem wl_m_risk1 : sf_cells (sf_w0 0 0) wl_H zb_m221.2.2.1 zb_m221.2.2.2.2.1 = true := by decide +kernel
theorem wl_m_risk2 : sf_cells (sf_w0 0 0) zb_m221.2.2.2.1 wl_H zb_m221.2.2.2.2.1 = true := by decide +kernel
theorem wl_m_risk3 {ρ : Nat → Int32} {ω : Nat → Value} {a1 a2 a3 : Int32} (ha3 : a3.toInt = 0 ∨ a3.toInt = 1) : en_lr E ρ ω 6 zb_m221.2.1 [(0, .ref (E.1 + 88)), (1, .int a1), (2, .int a2), (3, .int a3)] := by
  intro i hi
  have hc : i = 0 ∨ i = 1 ∨ i = 2 ∨ i = 3 ∨ i = 4 ∨ i = 5 := by omega
  rcases hc with rfl | rfl | rfl | rfl | rfl | rfl
  · exact Or.inr ⟨_, rfl, by rw [show en_elt zb_m221.2.1 0 = 8589934680 from by decide +kernel]; exact (en_v_ref (by decide) (by decide)).mpr rfl⟩
  · exact Or.inr ⟨_, rfl, by rw [show en_elt zb_m221.2.1 1 = 73786976299133173759 from by decide +kernel]; exact en_any_v _⟩
  · exact Or.inr ⟨_, rfl, by rw [show en_elt zb_m221.2.1 2 = 73786976299133173759 from by decide +kernel]; exact en_any_v _⟩
  · exact Or.inr ⟨_, rfl, by rw [show en_elt zb_m221.2.1 3 = 83010348333840465921 from by decide +kernel]; exact wl_b ha3⟩
  · exact Or.inl (by decide +kernel)
  · exact Or.inl (by decide +kernel)
theorem wl_m_risk {a1 a2 a3 : Int32} (ha3 : a3.toInt = 0 ∨ a3.toInt = 1) (hS : ∀ ρ, en_SA E ρ (wl_o x y) mt_SB) (hL : wl_W E wl_H x y h) (hd : gs.length ≤ 900) (kk : ∀ (h' : mm_H) (r : Int32), wl_W E wl_H x y h' → en_Good E mt_kds mt_P 1000 FIN (mm_back (some (.int r)) gs h')) : en_Good E mt_kds mt_P 1000 FIN ((79, 0, [(0, .ref (E.1 + 88)), (1, .int a1), (2, .int a2), (3, .int a3)], [], 0, 0) :: gs, h, none) :=
  wl_call (M := zb_m221) (Hi := wl_H) (Ho := wl_H) (zb_k221 hS rd_JX rd_MnB) wl_m_risk1 wl_m_risk2 (fun _ _ _ => rfl) (by decide) wl_H_n wl_H_n (cs := mt_79.1) (nL := 6) (dd := mt_79.2.2) rfl hL (fun ρ => wl_m_risk3 ha3) (by omega) (fun vo h' hL2 hv => by
    obtain ⟨r, rfl⟩ := wl_vo (c := 73786976299133173759) (by decide +kernel) hv
    exact kk h' r hL2)
theorem wl_c_safest1 : sf_cells (sf_w0 0 0) wl_H sa_m109.2.2.1 sa_m109.2.2.2.2.1 = true := by decide +kernel
theorem wl_c_safest2 : sf_cells (sf_w0 0 0) sa_m109.2.2.2.1 wl_H sa_m109.2.2.2.2.1 = true := by decide +kernel
theorem wl_c_safest3 {ρ : Nat → Int32} {ω : Nat → Value} {a1 a2 : Int32} : en_lr E ρ ω 4 sa_m109.2.1 [(0, .ref (E.1 + 0)), (1, .int a1), (2, .int a2)] := by
  intro i hi
  have hc : i = 0 ∨ i = 1 ∨ i = 2 ∨ i = 3 := by omega
  rcases hc with rfl | rfl | rfl | rfl
  · exact Or.inr ⟨_, rfl, by rw [show en_elt sa_m109.2.1 0 = 8589934592 from by decide +kernel]; exact (en_v_ref (by decide) (by decide)).mpr rfl⟩
  · exact Or.inr ⟨_, rfl, by rw [show en_elt sa_m109.2.1 1 = 73786976299133173759 from by decide +kernel]; exact en_any_v _⟩
  · exact Or.inr ⟨_, rfl, by rw [show en_elt sa_m109.2.1 2 = 73786976299133173759 from by decide +kernel]; exact en_any_v _⟩
  · exact Or.inl (by decide +kernel)
theorem wl_c_safest {a1 a2 : Int32} (hS : ∀ ρ, en_SA E ρ (wl_o x y) mt_SB) (h8 : ∃ q, E.2[8]? = some q) (hL : wl_W E wl_H x y h) (hd : gs.length ≤ 900) (kk : ∀ (h' : mm_H) (r : Int32), wl_W E wl_H x y h' → en_Good E mt_kds mt_P 1000 FIN (mm_back (some (.int r)) gs h')) : en_Good E mt_kds mt_P 1000 FIN ((258, 0, [(0, .ref (E.1 + 0)), (1, .int a1), (2, .int a2)], [], 0, 0) :: gs, h, none) :=
  wl_call (M := sa_m109) (Hi := wl_H) (Ho := wl_H) (sa_k109 hS rd_JX (sf_MnA_ok h8)) wl_c_safest1 wl_c_safest2 (fun _ _ _ => rfl) (by decide) wl_H_n wl_H_n (cs := mt_258.1) (nL := 4) (dd := mt_258.2.2) rfl hL (fun ρ => wl_c_safest3) (by omega) (fun vo h' hL2 hv => by
    obtain ⟨r, rfl⟩ := wl_vo (c := 83010348329545498627) (by decide +kernel) hv
    exact kk h' r hL2)
theorem wl_m_safest1 : sf_cells (sf_w0 0 0) wl_H zb_m425.2.2.1 zb_m425.2.2.2.2.1 = true := by decide +kernel
theorem wl_m_safest2 : sf_cells (sf_w0 0 0) zb_m425.2.2.2.1 wl_H zb_m425.2.2.2.2.1 = true := by decide +kernel
theorem wl_m_safest3 {ρ : Nat → Int32} {ω : Nat → Value} {a1 a2 : Int32} : en_lr E ρ ω 3 zb_m425.2.1 [(0, .ref (E.1 + 88)), (1, .int a1), (2, .int a2)] := by
  intro i hi
  have hc : i = 0 ∨ i = 1 ∨ i = 2 := by omega
  rcases hc with rfl | rfl | rfl
  · exact Or.inr ⟨_, rfl, by rw [show en_elt zb_m425.2.1 0 = 8589934680 from by decide +kernel]; exact (en_v_ref (by decide) (by decide)).mpr rfl⟩
  · exact Or.inr ⟨_, rfl, by rw [show en_elt zb_m425.2.1 1 = 73786976299133173759 from by decide +kernel]; exact en_any_v _⟩
  · exact Or.inr ⟨_, rfl, by rw [show en_elt zb_m425.2.1 2 = 73786976299133173759 from by decide +kernel]; exact en_any_v _⟩
theorem wl_m_safest {a1 a2 : Int32} (hS : ∀ ρ, en_SA E ρ (wl_o x y) mt_SB) (hL : wl_W E wl_H x y h) (hd : gs.length ≤ 900) (kk : ∀ (h' : mm_H) (r : Int32), wl_W E wl_H x y h' → en_Good E mt_kds mt_P 1000 FIN (mm_back (some (.int r)) gs h')) : en_Good E mt_kds mt_P 1000 FIN ((84, 0, [(0, .ref (E.1 + 88)), (1, .int a1), (2, .int a2)], [], 0, 0) :: gs, h, none) :=
  wl_call (M := zb_m425) (Hi := wl_H) (Ho := wl_H) (zb_k425 hS rd_JX rd_MnB) wl_m_safest1 wl_m_safest2 (fun _ _ _ => rfl) (by decide) wl_H_n wl_H_n (cs := mt_84.1) (nL := 3) (dd := mt_84.2.2) rfl hL (fun ρ => wl_m_safest3) (by omega) (fun vo h' hL2 hv => by
    obtain ⟨r, rfl⟩ := wl_vo (c := 73786976299133173759) (by decide +kernel) hv
    exact kk h' r hL2)
theorem wl_c_safe1 : sf_cells (sf_w0 0 0) wl_H sa_m110.2.2.1 sa_m110.2.2.2.2.1 = true := by decide +kernel
theorem wl_c_safe2 : sf_cells (sf_w0 0 0) sa_m110.2.2.2.1 wl_H sa_m110.2.2.2.2.1 = true := by decide +kernel
theorem wl_c_safe3 {ρ : Nat → Int32} {ω : Nat → Value} {a1 a2 : Int32} (ha2 : a2.toInt = 0 ∨ a2.toInt = 1) : en_lr E ρ ω 4 sa_m110.2.1 [(0, .ref (E.1 + 0)), (1, .int a1), (2, .int a2)] := by
  intro i hi
  have hc : i = 0 ∨ i = 1 ∨ i = 2 ∨ i = 3 := by omega
  rcases hc with rfl | rfl | rfl | rfl
  · exact Or.inr ⟨_, rfl, by rw [show en_elt sa_m110.2.1 0 = 8589934592 from by decide +kernel]; exact (en_v_ref (by decide) (by decide)).mpr rfl⟩
  · exact Or.inr ⟨_, rfl, by rw [show en_elt sa_m110.2.1 1 = 73786976299133173759 from by decide +kernel]; exact en_any_v _⟩
  · exact Or.inr ⟨_, rfl, by rw [show en_elt sa_m110.2.1 2 = 83010348333840465921 from by decide +kernel]; exact wl_b ha2⟩
  · exact Or.inl (by decide +kernel)
theorem wl_c_safe {a1 a2 : Int32} (ha2 : a2.toInt = 0 ∨ a2.toInt = 1) (hS : ∀ ρ, en_SA E ρ (wl_o x y) mt_SB) (h8 : ∃ q, E.2[8]? = some q) (hL : wl_W E wl_H x y h) (hd : gs.length ≤ 900) (kk : ∀ (h' : mm_H) (r : Int32), wl_W E wl_H x y h' → en_Good E mt_kds mt_P 1000 FIN (mm_back (some (.int r)) gs h')) : en_Good E mt_kds mt_P 1000 FIN ((257, 0, [(0, .ref (E.1 + 0)), (1, .int a1), (2, .int a2)], [], 0, 0) :: gs, h, none) :=
  wl_call (M := sa_m110) (Hi := wl_H) (Ho := wl_H) (sa_k110 hS rd_JX (sf_MnA_ok h8)) wl_c_safe1 wl_c_safe2 (fun _ _ _ => rfl) (by decide) wl_H_n wl_H_n (cs := mt_257.1) (nL := 4) (dd := mt_257.2.2) rfl hL (fun ρ => wl_c_safe3 ha2) (by omega) (fun vo h' hL2 hv => by
    obtain ⟨r, rfl⟩ := wl_vo (c := 73786976299133173759) (by decide +kernel) hv
    exact kk h' r hL2)
theorem wl_m_safe1 : sf_cells (sf_w0 0 0) wl_H zb_m426.2.2.1 zb_m426.2.2.2.2.1 = true := by decide +kernel
theorem wl_m_safe2 : sf_cells (sf_w0 0 0) zb_m426.2.2.2.1 wl_H zb_m426.2.2.2.2.1 = true := by decide +kernel
theorem wl_m_safe3 {ρ : Nat → Int32} {ω : Nat → Value} {a1 a2 : Int32} (ha2 : a2.toInt = 0 ∨ a2.toInt = 1) : en_lr E ρ ω 3 zb_m426.2.1 [(0, .ref (E.1 + 88)), (1, .int a1), (2, .int a2)] := by
  intro i hi
  have hc : i = 0 ∨ i = 1 ∨ i = 2 := by omega
  rcases hc with rfl | rfl | rfl
  · exact Or.inr ⟨_, rfl, by rw [show en_elt zb_m426.2.1 0 = 8589934680 from by decide +kernel]; exact (en_v_ref (by decide) (by decide)).mpr rfl⟩
  · exact Or.inr ⟨_, rfl, by rw [show en_elt zb_m426.2.1 1 = 73786976299133173759 from by decide +kernel]; exact en_any_v _⟩
  · exact Or.inr ⟨_, rfl, by rw [show en_elt zb_m426.2.1 2 = 83010348333840465921 from by decide +kernel]; exact wl_b ha2⟩
theorem wl_m_safe {a1 a2 : Int32} (ha2 : a2.toInt = 0 ∨ a2.toInt = 1) (hS : ∀ ρ, en_SA E ρ (wl_o x y) mt_SB) (hL : wl_W E wl_H x y h) (hd : gs.length ≤ 900) (kk : ∀ (h' : mm_H) (r : Int32), wl_W E wl_H x y h' → en_Good E mt_kds mt_P 1000 FIN (mm_back (some (.int r)) gs h')) : en_Good E mt_kds mt_P 1000 FIN ((81, 0, [(0, .ref (E.1 + 88)), (1, .int a1), (2, .int a2)], [], 0, 0) :: gs, h, none) :=
  wl_call (M := zb_m426) (Hi := wl_H) (Ho := wl_H) (zb_k426 hS rd_JX rd_MnB) wl_m_safe1 wl_m_safe2 (fun _ _ _ => rfl) (by decide) wl_H_n wl_H_n (cs := mt_81.1) (nL := 3) (dd := mt_81.2.2) rfl hL (fun ρ => wl_m_safe3 ha2) (by omega) (fun vo h' hL2 hv => by
    obtain ⟨r, rfl⟩ := wl_vo (c := 73786976299133173759) (by decide +kernel) hv
    exact kk h' r hL2)
theorem wl_c_roster1 : sf_cells (sf_w0 0 0) wl_H sa_m114.2.2.1 sa_m114.2.2.2.2.1 = true := by decide +kernel
theorem wl_c_roster2 : sf_cells (sf_w0 0 0) sa_m114.2.2.2.1 wl_H sa_m114.2.2.2.2.1 = true := by decide +kernel
theorem wl_c_roster3 {ρ : Nat → Int32} {ω : Nat → Value} {a1 : Int32} : en_lr E ρ ω 2 sa_m114.2.1 [(0, .ref (E.1 + 0)), (1, .int a1)] := by
  intro i hi
  have hc : i = 0 ∨ i = 1 := by omega
  rcases hc with rfl | rfl
  · exact Or.inr ⟨_, rfl, by rw [show en_elt sa_m114.2.1 0 = 8589934592 from by decide +kernel]; exact (en_v_ref (by decide) (by decide)).mpr rfl⟩
  · exact Or.inr ⟨_, rfl, by rw [show en_elt sa_m114.2.1 1 = 73786976299133173759 from by decide +kernel]; exact en_any_v _⟩
theorem wl_c_roster {a1 : Int32} (hS : ∀ ρ, en_SA E ρ (wl_o x y) mt_SB) (h8 : ∃ q, E.2[8]? = some q) (hL : wl_W E wl_H x y h) (hd : gs.length ≤ 900) (kk : ∀ (h' : mm_H) (r : Int32), wl_W E wl_H x y h' → en_Good E mt_kds mt_P 1000 FIN (mm_back (some (.int r)) gs h')) : en_Good E mt_kds mt_P 1000 FIN ((256, 0, [(0, .ref (E.1 + 0)), (1, .int a1)], [], 0, 0) :: gs, h, none) :=
  wl_call (M := sa_m114) (Hi := wl_H) (Ho := wl_H) (sa_k114 hS rd_JX (sf_MnA_ok h8)) wl_c_roster1 wl_c_roster2 (fun _ _ _ => rfl) (by decide) wl_H_n wl_H_n (cs := mt_256.1) (nL := 2) (dd := mt_256.2.2) rfl hL (fun ρ => wl_c_roster3) (by omega) (fun vo h' hL2 hv => by
    obtain ⟨r, rfl⟩ := wl_vo (c := 73786976299133173759) (by decide +kernel) hv
    exact kk h' r hL2)
theorem wl_m_roster1 : sf_cells (sf_w0 0 0) wl_H zb_m430.2.2.1 zb_m430.2.2.2.2.1 = true := by decide +kernel
theorem wl_m_roster2 : sf_cells (sf_w0 0 0) zb_m430.2.2.2.1 wl_H zb_m430.2.2.2.2.1 = true := by decide +kernel
theorem wl_m_roster3 {ρ : Nat → Int32} {ω : Nat → Value} {a1 : Int32} : en_lr E ρ ω 2 zb_m430.2.1 [(0, .ref (E.1 + 88)), (1, .int a1)] := by
  intro i hi
  have hc : i = 0 ∨ i = 1 := by omega
  rcases hc with rfl | rfl
  · exact Or.inr ⟨_, rfl, by rw [show en_elt zb_m430.2.1 0 = 8589934680 from by decide +kernel]; exact (en_v_ref (by decide) (by decide)).mpr rfl⟩
  · exact Or.inr ⟨_, rfl, by rw [show en_elt zb_m430.2.1 1 = 73786976299133173759 from by decide +kernel]; exact en_any_v _⟩
theorem wl_m_roster {a1 : Int32} (hS : ∀ ρ, en_SA E ρ (wl_o x y) mt_SB) (hL : wl_W E wl_H x y h) (hd : gs.length ≤ 900) (kk : ∀ (h' : mm_H) (r : Int32), wl_W E wl_H x y h' → en_Good E mt_kds mt_P 1000 FIN (mm_back (some (.int r)) gs h')) : en_Good E mt_kds mt_P 1000 FIN ((80, 0, [(0, .ref (E.1 + 88)), (1, .int a1)], [], 0, 0) :: gs, h, none) :=
  wl_call (M := zb_m430) (Hi := wl_H) (Ho := wl_H) (zb_k430 hS rd_JX rd_MnB) wl_m_roster1 wl_m_roster2 (fun _ _ _ => rfl) (by decide) wl_H_n wl_H_n (cs := mt_80.1) (nL := 2) (dd := mt_80.2.2) rfl hL (fun ρ => wl_m_roster3) (by omega) (fun vo h' hL2 hv => by
    obtain ⟨r, rfl⟩ := wl_vo (c := 73786976299133173759) (by decide +kernel) hv
    exact kk h' r hL2)
theorem wl_c_handy1 : sf_cells (sf_w0 0 0) wl_H sa_m115.2.2.1 sa_m115.2.2.2.2.1 = true := by decide +kernel
theorem wl_c_handy2 : sf_cells (sf_w0 0 0) sa_m115.2.2.2.1 wl_H sa_m115.2.2.2.2.1 = true := by decide +kernel
theorem wl_c_handy3 {ρ : Nat → Int32} {ω : Nat → Value} {a1 : Int32} : en_lr E ρ ω 6 sa_m115.2.1 [(0, .ref (E.1 + 0)), (1, .int a1)] := by
  intro i hi
  have hc : i = 0 ∨ i = 1 ∨ i = 2 ∨ i = 3 ∨ i = 4 ∨ i = 5 := by omega
  rcases hc with rfl | rfl | rfl | rfl | rfl | rfl
  · exact Or.inr ⟨_, rfl, by rw [show en_elt sa_m115.2.1 0 = 8589934592 from by decide +kernel]; exact (en_v_ref (by decide) (by decide)).mpr rfl⟩
  · exact Or.inr ⟨_, rfl, by rw [show en_elt sa_m115.2.1 1 = 73786976299133173759 from by decide +kernel]; exact en_any_v _⟩
  · exact Or.inl (by decide +kernel)
  · exact Or.inl (by decide +kernel)
  · exact Or.inl (by decide +kernel)
  · exact Or.inl (by decide +kernel)
theorem wl_c_handy {a1 : Int32} (hS : ∀ ρ, en_SA E ρ (wl_o x y) mt_SB) (h8 : ∃ q, E.2[8]? = some q) (hL : wl_W E wl_H x y h) (hd : gs.length ≤ 900) (kk : ∀ (h' : mm_H) (r : Int32), wl_W E wl_H x y h' → en_Good E mt_kds mt_P 1000 FIN (mm_back (some (.int r)) gs h')) : en_Good E mt_kds mt_P 1000 FIN ((234, 0, [(0, .ref (E.1 + 0)), (1, .int a1)], [], 0, 0) :: gs, h, none) :=
  wl_call (M := sa_m115) (Hi := wl_H) (Ho := wl_H) (sa_k115 hS rd_JX (sf_MnA_ok h8)) wl_c_handy1 wl_c_handy2 (fun _ _ _ => rfl) (by decide) wl_H_n wl_H_n (cs := mt_234.1) (nL := 6) (dd := mt_234.2.2) rfl hL (fun ρ => wl_c_handy3) (by omega) (fun vo h' hL2 hv => by
    obtain ⟨r, rfl⟩ := wl_vo (c := 83010348325250531333) (by decide +kernel) hv
    exact kk h' r hL2)
theorem wl_m_handy1 : sf_cells (sf_w0 0 0) wl_H zb_m431.2.2.1 zb_m431.2.2.2.2.1 = true := by decide +kernel
theorem wl_m_handy2 : sf_cells (sf_w0 0 0) zb_m431.2.2.2.1 wl_H zb_m431.2.2.2.2.1 = true := by decide +kernel
theorem wl_m_handy3 {ρ : Nat → Int32} {ω : Nat → Value} {a1 : Int32} : en_lr E ρ ω 4 zb_m431.2.1 [(0, .ref (E.1 + 88)), (1, .int a1)] := by
  intro i hi
  have hc : i = 0 ∨ i = 1 ∨ i = 2 ∨ i = 3 := by omega
  rcases hc with rfl | rfl | rfl | rfl
  · exact Or.inr ⟨_, rfl, by rw [show en_elt zb_m431.2.1 0 = 8589934680 from by decide +kernel]; exact (en_v_ref (by decide) (by decide)).mpr rfl⟩
  · exact Or.inr ⟨_, rfl, by rw [show en_elt zb_m431.2.1 1 = 73786976299133173759 from by decide +kernel]; exact en_any_v _⟩
  · exact Or.inl (by decide +kernel)
  · exact Or.inl (by decide +kernel)
theorem wl_m_handy {a1 : Int32} (hS : ∀ ρ, en_SA E ρ (wl_o x y) mt_SB) (hL : wl_W E wl_H x y h) (hd : gs.length ≤ 900) (kk : ∀ (h' : mm_H) (r : Int32), wl_W E wl_H x y h' → en_Good E mt_kds mt_P 1000 FIN (mm_back (some (.int r)) gs h')) : en_Good E mt_kds mt_P 1000 FIN ((38, 0, [(0, .ref (E.1 + 88)), (1, .int a1)], [], 0, 0) :: gs, h, none) :=
  wl_call (M := zb_m431) (Hi := wl_H) (Ho := wl_H) (zb_k431 hS rd_JX rd_MnB) wl_m_handy1 wl_m_handy2 (fun _ _ _ => rfl) (by decide) wl_H_n wl_H_n (cs := mt_38.1) (nL := 4) (dd := mt_38.2.2) rfl hL (fun ρ => wl_m_handy3) (by omega) (fun vo h' hL2 hv => by
    obtain ⟨r, rfl⟩ := wl_vo (c := 83010348325250531333) (by decide +kernel) hv
    exact kk h' r hL2)
theorem wl_c_better1 : sf_cells (sf_w0 0 0) wl_H sa_m116.2.2.1 sa_m116.2.2.2.2.1 = true := by decide +kernel
theorem wl_c_better2 : sf_cells (sf_w0 0 0) sa_m116.2.2.2.1 wl_H sa_m116.2.2.2.2.1 = true := by decide +kernel
theorem wl_c_better3 {ρ : Nat → Int32} {ω : Nat → Value} {a1 : Int32} (ha1 : a1.toInt = 0 ∨ a1.toInt = 1) : en_lr E ρ ω 4 sa_m116.2.1 [(0, .ref (E.1 + 0)), (1, .int a1)] := by
  intro i hi
  have hc : i = 0 ∨ i = 1 ∨ i = 2 ∨ i = 3 := by omega
  rcases hc with rfl | rfl | rfl | rfl
  · exact Or.inr ⟨_, rfl, by rw [show en_elt sa_m116.2.1 0 = 8589934592 from by decide +kernel]; exact (en_v_ref (by decide) (by decide)).mpr rfl⟩
  · exact Or.inr ⟨_, rfl, by rw [show en_elt sa_m116.2.1 1 = 83010348333840465921 from by decide +kernel]; exact wl_b ha1⟩
  · exact Or.inl (by decide +kernel)
  · exact Or.inl (by decide +kernel)
theorem wl_c_better {a1 : Int32} (ha1 : a1.toInt = 0 ∨ a1.toInt = 1) (hS : ∀ ρ, en_SA E ρ (wl_o x y) mt_SB) (h8 : ∃ q, E.2[8]? = some q) (hL : wl_W E wl_H x y h) (hd : gs.length ≤ 900) (kk : ∀ (h' : mm_H) (r : Int32), wl_W E wl_H x y h' → en_Good E mt_kds mt_P 1000 FIN (mm_back (some (.int r)) gs h')) : en_Good E mt_kds mt_P 1000 FIN ((223, 0, [(0, .ref (E.1 + 0)), (1, .int a1)], [], 0, 0) :: gs, h, none) :=
  wl_call (M := sa_m116) (Hi := wl_H) (Ho := wl_H) (sa_k116 hS rd_JX (sf_MnA_ok h8)) wl_c_better1 wl_c_better2 (fun _ _ _ => rfl) (by decide) wl_H_n wl_H_n (cs := mt_223.1) (nL := 4) (dd := mt_223.2.2) rfl hL (fun ρ => wl_c_better3 ha1) (by omega) (fun vo h' hL2 hv => by
    obtain ⟨r, rfl⟩ := wl_vo (c := 73786976299133173759) (by decide +kernel) hv
    exact kk h' r hL2)
theorem wl_m_better1 : sf_cells (sf_w0 0 0) wl_H zb_m432.2.2.1 zb_m432.2.2.2.2.1 = true := by decide +kernel
theorem wl_m_better2 : sf_cells (sf_w0 0 0) zb_m432.2.2.2.1 wl_H zb_m432.2.2.2.2.1 = true := by decide +kernel
theorem wl_m_better3 {ρ : Nat → Int32} {ω : Nat → Value} {a1 : Int32} (ha1 : a1.toInt = 0 ∨ a1.toInt = 1) : en_lr E ρ ω 4 zb_m432.2.1 [(0, .ref (E.1 + 88)), (1, .int a1)] := by
  intro i hi
  have hc : i = 0 ∨ i = 1 ∨ i = 2 ∨ i = 3 := by omega
  rcases hc with rfl | rfl | rfl | rfl
  · exact Or.inr ⟨_, rfl, by rw [show en_elt zb_m432.2.1 0 = 8589934680 from by decide +kernel]; exact (en_v_ref (by decide) (by decide)).mpr rfl⟩
  · exact Or.inr ⟨_, rfl, by rw [show en_elt zb_m432.2.1 1 = 83010348333840465921 from by decide +kernel]; exact wl_b ha1⟩
  · exact Or.inl (by decide +kernel)
  · exact Or.inl (by decide +kernel)
theorem wl_m_better {a1 : Int32} (ha1 : a1.toInt = 0 ∨ a1.toInt = 1) (hS : ∀ ρ, en_SA E ρ (wl_o x y) mt_SB) (hL : wl_W E wl_H x y h) (hd : gs.length ≤ 900) (kk : ∀ (h' : mm_H) (r : Int32), wl_W E wl_H x y h' → en_Good E mt_kds mt_P 1000 FIN (mm_back (some (.int r)) gs h')) : en_Good E mt_kds mt_P 1000 FIN ((9, 0, [(0, .ref (E.1 + 88)), (1, .int a1)], [], 0, 0) :: gs, h, none) :=
  wl_call (M := zb_m432) (Hi := wl_H) (Ho := wl_H) (zb_k432 hS rd_JX rd_MnB) wl_m_better1 wl_m_better2 (fun _ _ _ => rfl) (by decide) wl_H_n wl_H_n (cs := mt_9.1) (nL := 4) (dd := mt_9.2.2) rfl hL (fun ρ => wl_m_better3 ha1) (by omega) (fun vo h' hL2 hv => by
    obtain ⟨r, rfl⟩ := wl_vo (c := 73786976299133173759) (by decide +kernel) hv
    exact kk h' r hL2)
theorem wl_c_then1 : sf_cells (sf_w0 0 0) wl_H sa_m127.2.2.1 sa_m127.2.2.2.2.1 = true := by decide +kernel
theorem wl_c_then2 : sf_cells (sf_w0 0 0) sa_m127.2.2.2.1 wl_H sa_m127.2.2.2.2.1 = true := by decide +kernel
theorem wl_c_then3 {ρ : Nat → Int32} {ω : Nat → Value} {a1 a2 : Int32} : en_lr E ρ ω 3 sa_m127.2.1 [(0, .ref (E.1 + 0)), (1, .int a1), (2, .int a2)] := by
  intro i hi
  have hc : i = 0 ∨ i = 1 ∨ i = 2 := by omega
  rcases hc with rfl | rfl | rfl
  · exact Or.inr ⟨_, rfl, by rw [show en_elt sa_m127.2.1 0 = 8589934592 from by decide +kernel]; exact (en_v_ref (by decide) (by decide)).mpr rfl⟩
  · exact Or.inr ⟨_, rfl, by rw [show en_elt sa_m127.2.1 1 = 73786976299133173759 from by decide +kernel]; exact en_any_v _⟩
  · exact Or.inr ⟨_, rfl, by rw [show en_elt sa_m127.2.1 2 = 73786976299133173759 from by decide +kernel]; exact en_any_v _⟩
theorem wl_c_then {a1 a2 : Int32} (hS : ∀ ρ, en_SA E ρ (wl_o x y) mt_SB) (h8 : ∃ q, E.2[8]? = some q) (hL : wl_W E wl_H x y h) (hd : gs.length ≤ 900) (kk : ∀ (h' : mm_H) (r : Int32), wl_W E wl_H x y h' → en_Good E mt_kds mt_P 1000 FIN (mm_back (some (.int r)) gs h')) : en_Good E mt_kds mt_P 1000 FIN ((267, 0, [(0, .ref (E.1 + 0)), (1, .int a1), (2, .int a2)], [], 0, 0) :: gs, h, none) :=
  wl_call (M := sa_m127) (Hi := wl_H) (Ho := wl_H) (sa_k127 hS rd_JX (sf_MnA_ok h8)) wl_c_then1 wl_c_then2 (fun _ _ _ => rfl) (by decide) wl_H_n wl_H_n (cs := mt_267.1) (nL := 3) (dd := mt_267.2.2) rfl hL (fun ρ => wl_c_then3) (by omega) (fun vo h' hL2 hv => by
    obtain ⟨r, rfl⟩ := wl_vo (c := 73786976299133173759) (by decide +kernel) hv
    exact kk h' r hL2)
theorem wl_m_then1 : sf_cells (sf_w0 0 0) wl_H zb_m434.2.2.1 zb_m434.2.2.2.2.1 = true := by decide +kernel
theorem wl_m_then2 : sf_cells (sf_w0 0 0) zb_m434.2.2.2.1 wl_H zb_m434.2.2.2.2.1 = true := by decide +kernel
theorem wl_m_then3 {ρ : Nat → Int32} {ω : Nat → Value} {a1 a2 : Int32} : en_lr E ρ ω 3 zb_m434.2.1 [(0, .ref (E.1 + 88)), (1, .int a1), (2, .int a2)] := by
  intro i hi
  have hc : i = 0 ∨ i = 1 ∨ i = 2 := by omega
  rcases hc with rfl | rfl | rfl
  · exact Or.inr ⟨_, rfl, by rw [show en_elt zb_m434.2.1 0 = 8589934680 from by decide +kernel]; exact (en_v_ref (by decide) (by decide)).mpr rfl⟩
  · exact Or.inr ⟨_, rfl, by rw [show en_elt zb_m434.2.1 1 = 73786976299133173759 from by decide +kernel]; exact en_any_v _⟩
  · exact Or.inr ⟨_, rfl, by rw [show en_elt zb_m434.2.1 2 = 73786976299133173759 from by decide +kernel]; exact en_any_v _⟩
theorem wl_m_then {a1 a2 : Int32} (hS : ∀ ρ, en_SA E ρ (wl_o x y) mt_SB) (hL : wl_W E wl_H x y h) (hd : gs.length ≤ 900) (kk : ∀ (h' : mm_H) (r : Int32), wl_W E wl_H x y h' → en_Good E mt_kds mt_P 1000 FIN (mm_back (some (.int r)) gs h')) : en_Good E mt_kds mt_P 1000 FIN ((102, 0, [(0, .ref (E.1 + 88)), (1, .int a1), (2, .int a2)], [], 0, 0) :: gs, h, none) :=
  wl_call (M := zb_m434) (Hi := wl_H) (Ho := wl_H) (zb_k434 hS rd_JX rd_MnB) wl_m_then1 wl_m_then2 (fun _ _ _ => rfl) (by decide) wl_H_n wl_H_n (cs := mt_102.1) (nL := 3) (dd := mt_102.2.2) rfl hL (fun ρ => wl_m_then3) (by omega) (fun vo h' hL2 hv => by
    obtain ⟨r, rfl⟩ := wl_vo (c := 73786976299133173759) (by decide +kernel) hv
    exact kk h' r hL2)
theorem wl_c_often1 : sf_cells (sf_w0 0 0) wl_H sa_m128.2.2.1 sa_m128.2.2.2.2.1 = true := by decide +kernel
theorem wl_c_often2 : sf_cells (sf_w0 0 0) sa_m128.2.2.2.1 wl_H sa_m128.2.2.2.2.1 = true := by decide +kernel
theorem wl_c_often3 {ρ : Nat → Int32} {ω : Nat → Value} {a1 a2 a3 : Int32} : en_lr E ρ ω 6 sa_m128.2.1 [(0, .ref (E.1 + 0)), (1, .int a1), (2, .int a2), (3, .int a3)] := by
  intro i hi
  have hc : i = 0 ∨ i = 1 ∨ i = 2 ∨ i = 3 ∨ i = 4 ∨ i = 5 := by omega
  rcases hc with rfl | rfl | rfl | rfl | rfl | rfl
  · exact Or.inr ⟨_, rfl, by rw [show en_elt sa_m128.2.1 0 = 8589934592 from by decide +kernel]; exact (en_v_ref (by decide) (by decide)).mpr rfl⟩
  · exact Or.inr ⟨_, rfl, by rw [show en_elt sa_m128.2.1 1 = 73786976299133173759 from by decide +kernel]; exact en_any_v _⟩
  · exact Or.inr ⟨_, rfl, by rw [show en_elt sa_m128.2.1 2 = 73786976299133173759 from by decide +kernel]; exact en_any_v _⟩
  · exact Or.inr ⟨_, rfl, by rw [show en_elt sa_m128.2.1 3 = 73786976299133173759 from by decide +kernel]; exact en_any_v _⟩
  · exact Or.inl (by decide +kernel)
  · exact Or.inl (by decide +kernel)
theorem wl_c_often {a1 a2 a3 : Int32} (hS : ∀ ρ, en_SA E ρ (wl_o x y) mt_SB) (h8 : ∃ q, E.2[8]? = some q) (hL : wl_W E wl_H x y h) (hd : gs.length ≤ 900) (kk : ∀ (h' : mm_H) (r : Int32), wl_W E wl_H x y h' → en_Good E mt_kds mt_P 1000 FIN (mm_back (some (.int r)) gs h')) : en_Good E mt_kds mt_P 1000 FIN ((248, 0, [(0, .ref (E.1 + 0)), (1, .int a1), (2, .int a2), (3, .int a3)], [], 0, 0) :: gs, h, none) :=
  wl_call (M := sa_m128) (Hi := wl_H) (Ho := wl_H) (sa_k128 hS rd_JX (sf_MnA_ok h8)) wl_c_often1 wl_c_often2 (fun _ _ _ => rfl) (by decide) wl_H_n wl_H_n (cs := mt_248.1) (nL := 6) (dd := mt_248.2.2) rfl hL (fun ρ => wl_c_often3) (by omega) (fun vo h' hL2 hv => by
    obtain ⟨r, rfl⟩ := wl_vo (c := 73786976299133173759) (by decide +kernel) hv
    exact kk h' r hL2)
theorem wl_m_often1 : sf_cells (sf_w0 0 0) wl_H zb_m435.2.2.1 zb_m435.2.2.2.2.1 = true := by decide +kernel
theorem wl_m_often2 : sf_cells (sf_w0 0 0) zb_m435.2.2.2.1 wl_H zb_m435.2.2.2.2.1 = true := by decide +kernel
theorem wl_m_often3 {ρ : Nat → Int32} {ω : Nat → Value} {a1 a2 a3 : Int32} : en_lr E ρ ω 4 zb_m435.2.1 [(0, .ref (E.1 + 88)), (1, .int a1), (2, .int a2), (3, .int a3)] := by
  intro i hi
  have hc : i = 0 ∨ i = 1 ∨ i = 2 ∨ i = 3 := by omega
  rcases hc with rfl | rfl | rfl | rfl
  · exact Or.inr ⟨_, rfl, by rw [show en_elt zb_m435.2.1 0 = 8589934680 from by decide +kernel]; exact (en_v_ref (by decide) (by decide)).mpr rfl⟩
  · exact Or.inr ⟨_, rfl, by rw [show en_elt zb_m435.2.1 1 = 73786976299133173759 from by decide +kernel]; exact en_any_v _⟩
  · exact Or.inr ⟨_, rfl, by rw [show en_elt zb_m435.2.1 2 = 73786976299133173759 from by decide +kernel]; exact en_any_v _⟩
  · exact Or.inr ⟨_, rfl, by rw [show en_elt zb_m435.2.1 3 = 73786976299133173759 from by decide +kernel]; exact en_any_v _⟩
theorem wl_m_often {a1 a2 a3 : Int32} (hS : ∀ ρ, en_SA E ρ (wl_o x y) mt_SB) (hL : wl_W E wl_H x y h) (hd : gs.length ≤ 900) (kk : ∀ (h' : mm_H) (r : Int32), wl_W E wl_H x y h' → en_Good E mt_kds mt_P 1000 FIN (mm_back (some (.int r)) gs h')) : en_Good E mt_kds mt_P 1000 FIN ((68, 0, [(0, .ref (E.1 + 88)), (1, .int a1), (2, .int a2), (3, .int a3)], [], 0, 0) :: gs, h, none) :=
  wl_call (M := zb_m435) (Hi := wl_H) (Ho := wl_H) (zb_k435 hS rd_JX rd_MnB) wl_m_often1 wl_m_often2 (fun _ _ _ => rfl) (by decide) wl_H_n wl_H_n (cs := mt_68.1) (nL := 4) (dd := mt_68.2.2) rfl hL (fun ρ => wl_m_often3) (by omega) (fun vo h' hL2 hv => by
    obtain ⟨r, rfl⟩ := wl_vo (c := 73786976299133173759) (by decide +kernel) hv
    exact kk h' r hL2)
theorem wl_c_ends1 : sf_cells (sf_w0 0 0) wl_H sa_m130.2.2.1 sa_m130.2.2.2.2.1 = true := by decide +kernel
theorem wl_c_ends2 : sf_cells (sf_w0 0 0) sa_m130.2.2.2.1 wl_H sa_m130.2.2.2.2.1 = true := by decide +kernel
theorem wl_c_ends3 {ρ : Nat → Int32} {ω : Nat → Value} {a1 : Int32} : en_lr E ρ ω 2 sa_m130.2.1 [(0, .ref (E.1 + 0)), (1, .int a1)] := by
  intro i hi
  have hc : i = 0 ∨ i = 1 := by omega
  rcases hc with rfl | rfl
  · exact Or.inr ⟨_, rfl, by rw [show en_elt sa_m130.2.1 0 = 8589934592 from by decide +kernel]; exact (en_v_ref (by decide) (by decide)).mpr rfl⟩
  · exact Or.inr ⟨_, rfl, by rw [show en_elt sa_m130.2.1 1 = 73786976299133173759 from by decide +kernel]; exact en_any_v _⟩
theorem wl_c_ends {a1 : Int32} (hS : ∀ ρ, en_SA E ρ (wl_o x y) mt_SB) (h8 : ∃ q, E.2[8]? = some q) (hL : wl_W E wl_H x y h) (hd : gs.length ≤ 900) (kk : ∀ (h' : mm_H) (r : Int32), wl_W E wl_H x y h' → en_Good E mt_kds mt_P 1000 FIN (mm_back (some (.int r)) gs h')) : en_Good E mt_kds mt_P 1000 FIN ((229, 0, [(0, .ref (E.1 + 0)), (1, .int a1)], [], 0, 0) :: gs, h, none) :=
  wl_call (M := sa_m130) (Hi := wl_H) (Ho := wl_H) (sa_k130 hS rd_JX (sf_MnA_ok h8)) wl_c_ends1 wl_c_ends2 (fun _ _ _ => rfl) (by decide) wl_H_n wl_H_n (cs := mt_229.1) (nL := 2) (dd := mt_229.2.2) rfl hL (fun ρ => wl_c_ends3) (by omega) (fun vo h' hL2 hv => by
    obtain ⟨r, rfl⟩ := wl_vo (c := 73786976299133173759) (by decide +kernel) hv
    exact kk h' r hL2)
theorem wl_m_ends1 : sf_cells (sf_w0 0 0) wl_H zb_m437.2.2.1 zb_m437.2.2.2.2.1 = true := by decide +kernel
theorem wl_m_ends2 : sf_cells (sf_w0 0 0) zb_m437.2.2.2.1 wl_H zb_m437.2.2.2.2.1 = true := by decide +kernel
theorem wl_m_ends3 {ρ : Nat → Int32} {ω : Nat → Value} {a1 : Int32} : en_lr E ρ ω 2 zb_m437.2.1 [(0, .ref (E.1 + 88)), (1, .int a1)] := by
  intro i hi
  have hc : i = 0 ∨ i = 1 := by omega
  rcases hc with rfl | rfl
  · exact Or.inr ⟨_, rfl, by rw [show en_elt zb_m437.2.1 0 = 8589934680 from by decide +kernel]; exact (en_v_ref (by decide) (by decide)).mpr rfl⟩
  · exact Or.inr ⟨_, rfl, by rw [show en_elt zb_m437.2.1 1 = 73786976299133173759 from by decide +kernel]; exact en_any_v _⟩
theorem wl_m_ends {a1 : Int32} (hS : ∀ ρ, en_SA E ρ (wl_o x y) mt_SB) (hL : wl_W E wl_H x y h) (hd : gs.length ≤ 900) (kk : ∀ (h' : mm_H) (r : Int32), wl_W E wl_H x y h' → en_Good E mt_kds mt_P 1000 FIN (mm_back (some (.int r)) gs h')) : en_Good E mt_kds mt_P 1000 FIN ((24, 0, [(0, .ref (E.1 + 88)), (1, .int a1)], [], 0, 0) :: gs, h, none) :=
  wl_call (M := zb_m437) (Hi := wl_H) (Ho := wl_H) (zb_k437 hS rd_JX rd_MnB) wl_m_ends1 wl_m_ends2 (fun _ _ _ => rfl) (by decide) wl_H_n wl_H_n (cs := mt_24.1) (nL := 2) (dd := mt_24.2.2) rfl hL (fun ρ => wl_m_ends3) (by omega) (fun vo h' hL2 hv => by
    obtain ⟨r, rfl⟩ := wl_vo (c := 73786976299133173759) (by decide +kernel) hv
    exact kk h' r hL2)
theorem wl_c_steady1 : sf_cells (sf_w0 0 0) wl_H sa_m131.2.2.1 sa_m131.2.2.2.2.1 = true := by decide +kernel
theorem wl_c_steady2 : sf_cells (sf_w0 0 0) sa_m131.2.2.2.1 wl_H sa_m131.2.2.2.2.1 = true := by decide +kernel
theorem wl_c_steady3 {ρ : Nat → Int32} {ω : Nat → Value} {a1 a2 : Int32} : en_lr E ρ ω 3 sa_m131.2.1 [(0, .ref (E.1 + 0)), (1, .int a1), (2, .int a2)] := by
  intro i hi
  have hc : i = 0 ∨ i = 1 ∨ i = 2 := by omega
  rcases hc with rfl | rfl | rfl
  · exact Or.inr ⟨_, rfl, by rw [show en_elt sa_m131.2.1 0 = 8589934592 from by decide +kernel]; exact (en_v_ref (by decide) (by decide)).mpr rfl⟩
  · exact Or.inr ⟨_, rfl, by rw [show en_elt sa_m131.2.1 1 = 73786976299133173759 from by decide +kernel]; exact en_any_v _⟩
  · exact Or.inr ⟨_, rfl, by rw [show en_elt sa_m131.2.1 2 = 73786976299133173759 from by decide +kernel]; exact en_any_v _⟩
theorem wl_c_steady {a1 a2 : Int32} (hS : ∀ ρ, en_SA E ρ (wl_o x y) mt_SB) (h8 : ∃ q, E.2[8]? = some q) (hL : wl_W E wl_H x y h) (hd : gs.length ≤ 900) (kk : ∀ (h' : mm_H) (r : Int32), wl_W E wl_H x y h' → en_Good E mt_kds mt_P 1000 FIN (mm_back (some (.int r)) gs h')) : en_Good E mt_kds mt_P 1000 FIN ((263, 0, [(0, .ref (E.1 + 0)), (1, .int a1), (2, .int a2)], [], 0, 0) :: gs, h, none) :=
  wl_call (M := sa_m131) (Hi := wl_H) (Ho := wl_H) (sa_k131 hS rd_JX (sf_MnA_ok h8)) wl_c_steady1 wl_c_steady2 (fun _ _ _ => rfl) (by decide) wl_H_n wl_H_n (cs := mt_263.1) (nL := 3) (dd := mt_263.2.2) rfl hL (fun ρ => wl_c_steady3) (by omega) (fun vo h' hL2 hv => by
    obtain ⟨r, rfl⟩ := wl_vo (c := 73786976299133173759) (by decide +kernel) hv
    exact kk h' r hL2)
theorem wl_m_steady1 : sf_cells (sf_w0 0 0) wl_H zb_m438.2.2.1 zb_m438.2.2.2.2.1 = true := by decide +kernel
theorem wl_m_steady2 : sf_cells (sf_w0 0 0) zb_m438.2.2.2.1 wl_H zb_m438.2.2.2.2.1 = true := by decide +kernel
theorem wl_m_steady3 {ρ : Nat → Int32} {ω : Nat → Value} {a1 a2 : Int32} : en_lr E ρ ω 3 zb_m438.2.1 [(0, .ref (E.1 + 88)), (1, .int a1), (2, .int a2)] := by
  intro i hi
  have hc : i = 0 ∨ i = 1 ∨ i = 2 := by omega
  rcases hc with rfl | rfl | rfl
  · exact Or.inr ⟨_, rfl, by rw [show en_elt zb_m438.2.1 0 = 8589934680 from by decide +kernel]; exact (en_v_ref (by decide) (by decide)).mpr rfl⟩
  · exact Or.inr ⟨_, rfl, by rw [show en_elt zb_m438.2.1 1 = 73786976299133173759 from by decide +kernel]; exact en_any_v _⟩
  · exact Or.inr ⟨_, rfl, by rw [show en_elt zb_m438.2.1 2 = 73786976299133173759 from by decide +kernel]; exact en_any_v _⟩
theorem wl_m_steady {a1 a2 : Int32} (hS : ∀ ρ, en_SA E ρ (wl_o x y) mt_SB) (hL : wl_W E wl_H x y h) (hd : gs.length ≤ 900) (kk : ∀ (h' : mm_H) (r : Int32), wl_W E wl_H x y h' → en_Good E mt_kds mt_P 1000 FIN (mm_back (some (.int r)) gs h')) : en_Good E mt_kds mt_P 1000 FIN ((94, 0, [(0, .ref (E.1 + 88)), (1, .int a1), (2, .int a2)], [], 0, 0) :: gs, h, none) :=
  wl_call (M := zb_m438) (Hi := wl_H) (Ho := wl_H) (zb_k438 hS rd_JX rd_MnB) wl_m_steady1 wl_m_steady2 (fun _ _ _ => rfl) (by decide) wl_H_n wl_H_n (cs := mt_94.1) (nL := 3) (dd := mt_94.2.2) rfl hL (fun ρ => wl_m_steady3) (by omega) (fun vo h' hL2 hv => by
    obtain ⟨r, rfl⟩ := wl_vo (c := 73786976299133173759) (by decide +kernel) hv
    exact kk h' r hL2)
theorem wl_c_spared1 : sf_cells (sf_w0 0 0) wl_H sa_m133.2.2.1 sa_m133.2.2.2.2.1 = true := by decide +kernel
theorem wl_c_spared2 : sf_cells (sf_w0 0 0) sa_m133.2.2.2.1 wl_H sa_m133.2.2.2.2.1 = true := by decide +kernel
theorem wl_c_spared3 {ρ : Nat → Int32} {ω : Nat → Value} {a1 a2 : Int32} : en_lr E ρ ω 3 sa_m133.2.1 [(0, .ref (E.1 + 0)), (1, .int a1), (2, .int a2)] := by
  intro i hi
  have hc : i = 0 ∨ i = 1 ∨ i = 2 := by omega
  rcases hc with rfl | rfl | rfl
  · exact Or.inr ⟨_, rfl, by rw [show en_elt sa_m133.2.1 0 = 8589934592 from by decide +kernel]; exact (en_v_ref (by decide) (by decide)).mpr rfl⟩
  · exact Or.inr ⟨_, rfl, by rw [show en_elt sa_m133.2.1 1 = 73786976299133173759 from by decide +kernel]; exact en_any_v _⟩
  · exact Or.inr ⟨_, rfl, by rw [show en_elt sa_m133.2.1 2 = 73786976299133173759 from by decide +kernel]; exact en_any_v _⟩
theorem wl_c_spared {a1 a2 : Int32} (hS : ∀ ρ, en_SA E ρ (wl_o x y) mt_SB) (h8 : ∃ q, E.2[8]? = some q) (hL : wl_W E wl_H x y h) (hd : gs.length ≤ 900) (kk : ∀ (h' : mm_H) (r : Int32), wl_W E wl_H x y h' → en_Good E mt_kds mt_P 1000 FIN (mm_back (some (.int r)) gs h')) : en_Good E mt_kds mt_P 1000 FIN ((261, 0, [(0, .ref (E.1 + 0)), (1, .int a1), (2, .int a2)], [], 0, 0) :: gs, h, none) :=
  wl_call (M := sa_m133) (Hi := wl_H) (Ho := wl_H) (sa_k133 hS rd_JX (sf_MnA_ok h8)) wl_c_spared1 wl_c_spared2 (fun _ _ _ => rfl) (by decide) wl_H_n wl_H_n (cs := mt_261.1) (nL := 3) (dd := mt_261.2.2) rfl hL (fun ρ => wl_c_spared3) (by omega) (fun vo h' hL2 hv => by
    obtain ⟨r, rfl⟩ := wl_vo (c := 73786976299133173759) (by decide +kernel) hv
    exact kk h' r hL2)
theorem wl_m_spared1 : sf_cells (sf_w0 0 0) wl_H zb_m440.2.2.1 zb_m440.2.2.2.2.1 = true := by decide +kernel
theorem wl_m_spared2 : sf_cells (sf_w0 0 0) zb_m440.2.2.2.1 wl_H zb_m440.2.2.2.2.1 = true := by decide +kernel
theorem wl_m_spared3 {ρ : Nat → Int32} {ω : Nat → Value} {a1 a2 : Int32} : en_lr E ρ ω 3 zb_m440.2.1 [(0, .ref (E.1 + 88)), (1, .int a1), (2, .int a2)] := by
  intro i hi
  have hc : i = 0 ∨ i = 1 ∨ i = 2 := by omega
  rcases hc with rfl | rfl | rfl
  · exact Or.inr ⟨_, rfl, by rw [show en_elt zb_m440.2.1 0 = 8589934680 from by decide +kernel]; exact (en_v_ref (by decide) (by decide)).mpr rfl⟩
  · exact Or.inr ⟨_, rfl, by rw [show en_elt zb_m440.2.1 1 = 73786976299133173759 from by decide +kernel]; exact en_any_v _⟩
  · exact Or.inr ⟨_, rfl, by rw [show en_elt zb_m440.2.1 2 = 73786976299133173759 from by decide +kernel]; exact en_any_v _⟩
theorem wl_m_spared {a1 a2 : Int32} (hS : ∀ ρ, en_SA E ρ (wl_o x y) mt_SB) (hL : wl_W E wl_H x y h) (hd : gs.length ≤ 900) (kk : ∀ (h' : mm_H) (r : Int32), wl_W E wl_H x y h' → en_Good E mt_kds mt_P 1000 FIN (mm_back (some (.int r)) gs h')) : en_Good E mt_kds mt_P 1000 FIN ((92, 0, [(0, .ref (E.1 + 88)), (1, .int a1), (2, .int a2)], [], 0, 0) :: gs, h, none) :=
  wl_call (M := zb_m440) (Hi := wl_H) (Ho := wl_H) (zb_k440 hS rd_JX rd_MnB) wl_m_spared1 wl_m_spared2 (fun _ _ _ => rfl) (by decide) wl_H_n wl_H_n (cs := mt_92.1) (nL := 3) (dd := mt_92.2.2) rfl hL (fun ρ => wl_m_spared3) (by omega) (fun vo h' hL2 hv => by
    obtain ⟨r, rfl⟩ := wl_vo (c := 73786976299133173759) (by decide +kernel) hv
    exact kk h' r hL2)
theorem wl_c_broom1 : sf_cells (sf_w0 0 0) wl_H sa_m134.2.2.1 sa_m134.2.2.2.2.1 = true := by decide +kernel
theorem wl_c_broom2 : sf_cells (sf_w0 0 0) sa_m134.2.2.2.1 wl_H sa_m134.2.2.2.2.1 = true := by decide +kernel
theorem wl_c_broom3 {ρ : Nat → Int32} {ω : Nat → Value} : en_lr E ρ ω 1 sa_m134.2.1 [(0, .ref (E.1 + 0))] := by
  intro i hi
  have hc : i = 0 := by omega
  rcases hc with rfl
  · exact Or.inr ⟨_, rfl, by rw [show en_elt sa_m134.2.1 0 = 8589934592 from by decide +kernel]; exact (en_v_ref (by decide) (by decide)).mpr rfl⟩
theorem wl_c_broom (hS : ∀ ρ, en_SA E ρ (wl_o x y) mt_SB) (h8 : ∃ q, E.2[8]? = some q) (hL : wl_W E wl_H x y h) (hd : gs.length ≤ 900) (kk : ∀ (h' : mm_H) (r : Int32), wl_W E wl_H x y h' → en_Good E mt_kds mt_P 1000 FIN (mm_back (some (.int r)) gs h')) : en_Good E mt_kds mt_P 1000 FIN ((224, 0, [(0, .ref (E.1 + 0))], [], 0, 0) :: gs, h, none) :=
  wl_call (M := sa_m134) (Hi := wl_H) (Ho := wl_H) (sa_k134 hS rd_JX (sf_MnA_ok h8)) wl_c_broom1 wl_c_broom2 (fun _ _ _ => rfl) (by decide) wl_H_n wl_H_n (cs := mt_224.1) (nL := 1) (dd := mt_224.2.2) rfl hL (fun ρ => wl_c_broom3) (by omega) (fun vo h' hL2 hv => by
    obtain ⟨r, rfl⟩ := wl_vo (c := 73786976299133173759) (by decide +kernel) hv
    exact kk h' r hL2)
theorem wl_m_broom1 : sf_cells (sf_w0 0 0) wl_H zb_m455.2.2.1 zb_m455.2.2.2.2.1 = true := by decide +kernel
theorem wl_m_broom2 : sf_cells (sf_w0 0 0) zb_m455.2.2.2.1 wl_H zb_m455.2.2.2.2.1 = true := by decide +kernel
theorem wl_m_broom3 {ρ : Nat → Int32} {ω : Nat → Value} : en_lr E ρ ω 1 zb_m455.2.1 [(0, .ref (E.1 + 88))] := by
  intro i hi
  have hc : i = 0 := by omega
  rcases hc with rfl
  · exact Or.inr ⟨_, rfl, by rw [show en_elt zb_m455.2.1 0 = 8589934680 from by decide +kernel]; exact (en_v_ref (by decide) (by decide)).mpr rfl⟩
theorem wl_m_broom (hS : ∀ ρ, en_SA E ρ (wl_o x y) mt_SB) (hL : wl_W E wl_H x y h) (hd : gs.length ≤ 900) (kk : ∀ (h' : mm_H) (r : Int32), wl_W E wl_H x y h' → en_Good E mt_kds mt_P 1000 FIN (mm_back (some (.int r)) gs h')) : en_Good E mt_kds mt_P 1000 FIN ((11, 0, [(0, .ref (E.1 + 88))], [], 0, 0) :: gs, h, none) :=
  wl_call (M := zb_m455) (Hi := wl_H) (Ho := wl_H) (zb_k455 hS rd_JX rd_MnB) wl_m_broom1 wl_m_broom2 (fun _ _ _ => rfl) (by decide) wl_H_n wl_H_n (cs := mt_11.1) (nL := 1) (dd := mt_11.2.2) rfl hL (fun ρ => wl_m_broom3) (by omega) (fun vo h' hL2 hv => by
    obtain ⟨r, rfl⟩ := wl_vo (c := 73786976299133173759) (by decide +kernel) hv
    exact kk h' r hL2)
theorem wl_c_year1 : sf_cells (sf_w0 0 0) wl_H sa_m137.2.2.1 sa_m137.2.2.2.2.1 = true := by decide +kernel
theorem wl_c_year2 : sf_cells (sf_w0 0 0) sa_m137.2.2.2.1 wl_H sa_m137.2.2.2.2.1 = true := by decide +kernel
theorem wl_c_year3 {ρ : Nat → Int32} {ω : Nat → Value} {a1 a2 : Int32} : en_lr E ρ ω 3 sa_m137.2.1 [(0, .ref (E.1 + 0)), (1, .int a1), (2, .int a2)] := by
  intro i hi
  have hc : i = 0 ∨ i = 1 ∨ i = 2 := by omega
  rcases hc with rfl | rfl | rfl
  · exact Or.inr ⟨_, rfl, by rw [show en_elt sa_m137.2.1 0 = 8589934592 from by decide +kernel]; exact (en_v_ref (by decide) (by decide)).mpr rfl⟩
  · exact Or.inr ⟨_, rfl, by rw [show en_elt sa_m137.2.1 1 = 73786976299133173759 from by decide +kernel]; exact en_any_v _⟩
  · exact Or.inr ⟨_, rfl, by rw [show en_elt sa_m137.2.1 2 = 73786976299133173759 from by decide +kernel]; exact en_any_v _⟩
theorem wl_c_year {a1 a2 : Int32} (hS : ∀ ρ, en_SA E ρ (wl_o x y) mt_SB) (h8 : ∃ q, E.2[8]? = some q) (hL : wl_W E wl_H x y h) (hd : gs.length ≤ 900) (kk : ∀ (h' : mm_H) (r : Int32), wl_W E wl_H x y h' → en_Good E mt_kds mt_P 1000 FIN (mm_back (some (.int r)) gs h')) : en_Good E mt_kds mt_P 1000 FIN ((274, 0, [(0, .ref (E.1 + 0)), (1, .int a1), (2, .int a2)], [], 0, 0) :: gs, h, none) :=
  wl_call (M := sa_m137) (Hi := wl_H) (Ho := wl_H) (sa_k137 hS rd_JX (sf_MnA_ok h8)) wl_c_year1 wl_c_year2 (fun _ _ _ => rfl) (by decide) wl_H_n wl_H_n (cs := mt_274.1) (nL := 3) (dd := mt_274.2.2) rfl hL (fun ρ => wl_c_year3) (by omega) (fun vo h' hL2 hv => by
    obtain ⟨r, rfl⟩ := wl_vo (c := 73786976299133173759) (by decide +kernel) hv
    exact kk h' r hL2)
theorem wl_m_year1 : sf_cells (sf_w0 0 0) wl_H zb_m458.2.2.1 zb_m458.2.2.2.2.1 = true := by decide +kernel
theorem wl_m_year2 : sf_cells (sf_w0 0 0) zb_m458.2.2.2.1 wl_H zb_m458.2.2.2.2.1 = true := by decide +kernel
theorem wl_m_year3 {ρ : Nat → Int32} {ω : Nat → Value} {a1 a2 : Int32} : en_lr E ρ ω 5 zb_m458.2.1 [(0, .ref (E.1 + 88)), (1, .int a1), (2, .int a2)] := by
  intro i hi
  have hc : i = 0 ∨ i = 1 ∨ i = 2 ∨ i = 3 ∨ i = 4 := by omega
  rcases hc with rfl | rfl | rfl | rfl | rfl
  · exact Or.inr ⟨_, rfl, by rw [show en_elt zb_m458.2.1 0 = 8589934680 from by decide +kernel]; exact (en_v_ref (by decide) (by decide)).mpr rfl⟩
  · exact Or.inr ⟨_, rfl, by rw [show en_elt zb_m458.2.1 1 = 73786976299133173759 from by decide +kernel]; exact en_any_v _⟩
  · exact Or.inr ⟨_, rfl, by rw [show en_elt zb_m458.2.1 2 = 73786976299133173759 from by decide +kernel]; exact en_any_v _⟩
  · exact Or.inl (by decide +kernel)
  · exact Or.inl (by decide +kernel)
theorem wl_m_year {a1 a2 : Int32} (hS : ∀ ρ, en_SA E ρ (wl_o x y) mt_SB) (hL : wl_W E wl_H x y h) (hd : gs.length ≤ 900) (kk : ∀ (h' : mm_H) (r : Int32), wl_W E wl_H x y h' → en_Good E mt_kds mt_P 1000 FIN (mm_back (some (.int r)) gs h')) : en_Good E mt_kds mt_P 1000 FIN ((113, 0, [(0, .ref (E.1 + 88)), (1, .int a1), (2, .int a2)], [], 0, 0) :: gs, h, none) :=
  wl_call (M := zb_m458) (Hi := wl_H) (Ho := wl_H) (zb_k458 hS rd_JX rd_MnB) wl_m_year1 wl_m_year2 (fun _ _ _ => rfl) (by decide) wl_H_n wl_H_n (cs := mt_113.1) (nL := 5) (dd := mt_113.2.2) rfl hL (fun ρ => wl_m_year3) (by omega) (fun vo h' hL2 hv => by
    obtain ⟨r, rfl⟩ := wl_vo (c := 73786976299133173759) (by decide +kernel) hv
    exact kk h' r hL2)
theorem wl_c_weds1 : sf_cells (sf_w0 0 0) wl_H sa_m139.2.2.1 sa_m139.2.2.2.2.1 = true := by decide +kernel
theorem wl_c_weds2 : sf_cells (sf_w0 0 0) sa_m139.2.2.2.1 wl_H sa_m139.2.2.2.2.1 = true := by decide +kernel
theorem wl_c_weds3 {ρ : Nat → Int32} {ω : Nat → Value} {a1 a2 : Int32} : en_lr E ρ ω 3 sa_m139.2.1 [(0, .ref (E.1 + 0)), (1, .int a1), (2, .int a2)] := by
  intro i hi
  have hc : i = 0 ∨ i = 1 ∨ i = 2 := by omega
  rcases hc with rfl | rfl | rfl
  · exact Or.inr ⟨_, rfl, by rw [show en_elt sa_m139.2.1 0 = 8589934592 from by decide +kernel]; exact (en_v_ref (by decide) (by decide)).mpr rfl⟩
  · exact Or.inr ⟨_, rfl, by rw [show en_elt sa_m139.2.1 1 = 73786976299133173759 from by decide +kernel]; exact en_any_v _⟩
  · exact Or.inr ⟨_, rfl, by rw [show en_elt sa_m139.2.1 2 = 73786976299133173759 from by decide +kernel]; exact en_any_v _⟩
theorem wl_c_weds {a1 a2 : Int32} (hS : ∀ ρ, en_SA E ρ (wl_o x y) mt_SB) (h8 : ∃ q, E.2[8]? = some q) (hL : wl_W E wl_H x y h) (hd : gs.length ≤ 900) (kk : ∀ (h' : mm_H) (r : Int32), wl_W E wl_H x y h' → en_Good E mt_kds mt_P 1000 FIN (mm_back (some (.int r)) gs h')) : en_Good E mt_kds mt_P 1000 FIN ((272, 0, [(0, .ref (E.1 + 0)), (1, .int a1), (2, .int a2)], [], 0, 0) :: gs, h, none) :=
  wl_call (M := sa_m139) (Hi := wl_H) (Ho := wl_H) (sa_k139 hS rd_JX (sf_MnA_ok h8)) wl_c_weds1 wl_c_weds2 (fun _ _ _ => rfl) (by decide) wl_H_n wl_H_n (cs := mt_272.1) (nL := 3) (dd := mt_272.2.2) rfl hL (fun ρ => wl_c_weds3) (by omega) (fun vo h' hL2 hv => by
    obtain ⟨r, rfl⟩ := wl_vo (c := 73786976299133173759) (by decide +kernel) hv
    exact kk h' r hL2)
theorem wl_m_weds1 : sf_cells (sf_w0 0 0) wl_H zb_m459.2.2.1 zb_m459.2.2.2.2.1 = true := by decide +kernel
theorem wl_m_weds2 : sf_cells (sf_w0 0 0) zb_m459.2.2.2.1 wl_H zb_m459.2.2.2.2.1 = true := by decide +kernel
theorem wl_m_weds3 {ρ : Nat → Int32} {ω : Nat → Value} {a1 a2 : Int32} : en_lr E ρ ω 5 zb_m459.2.1 [(0, .ref (E.1 + 88)), (1, .int a1), (2, .int a2)] := by
  intro i hi
  have hc : i = 0 ∨ i = 1 ∨ i = 2 ∨ i = 3 ∨ i = 4 := by omega
  rcases hc with rfl | rfl | rfl | rfl | rfl
  · exact Or.inr ⟨_, rfl, by rw [show en_elt zb_m459.2.1 0 = 8589934680 from by decide +kernel]; exact (en_v_ref (by decide) (by decide)).mpr rfl⟩
  · exact Or.inr ⟨_, rfl, by rw [show en_elt zb_m459.2.1 1 = 73786976299133173759 from by decide +kernel]; exact en_any_v _⟩
  · exact Or.inr ⟨_, rfl, by rw [show en_elt zb_m459.2.1 2 = 73786976299133173759 from by decide +kernel]; exact en_any_v _⟩
  · exact Or.inl (by decide +kernel)
  · exact Or.inl (by decide +kernel)
theorem wl_m_weds {a1 a2 : Int32} (hS : ∀ ρ, en_SA E ρ (wl_o x y) mt_SB) (hL : wl_W E wl_H x y h) (hd : gs.length ≤ 900) (kk : ∀ (h' : mm_H) (r : Int32), wl_W E wl_H x y h' → en_Good E mt_kds mt_P 1000 FIN (mm_back (some (.int r)) gs h')) : en_Good E mt_kds mt_P 1000 FIN ((109, 0, [(0, .ref (E.1 + 88)), (1, .int a1), (2, .int a2)], [], 0, 0) :: gs, h, none) :=
  wl_call (M := zb_m459) (Hi := wl_H) (Ho := wl_H) (zb_k459 hS rd_JX rd_MnB) wl_m_weds1 wl_m_weds2 (fun _ _ _ => rfl) (by decide) wl_H_n wl_H_n (cs := mt_109.1) (nL := 5) (dd := mt_109.2.2) rfl hL (fun ρ => wl_m_weds3) (by omega) (fun vo h' hL2 hv => by
    obtain ⟨r, rfl⟩ := wl_vo (c := 73786976299133173759) (by decide +kernel) hv
    exact kk h' r hL2)
theorem wl_c_tell1 : sf_cells (sf_w0 0 0) wl_H sa_m140.2.2.1 sa_m140.2.2.2.2.1 = true := by decide +kernel
theorem wl_c_tell2 : sf_cells (sf_w0 0 0) sa_m140.2.2.2.1 wl_H sa_m140.2.2.2.2.1 = true := by decide +kernel
theorem wl_c_tell3 {ρ : Nat → Int32} {ω : Nat → Value} {a1 : Int32} : en_lr E ρ ω 2 sa_m140.2.1 [(0, .ref (E.1 + 0)), (1, .int a1)] := by
  intro i hi
  have hc : i = 0 ∨ i = 1 := by omega
  rcases hc with rfl | rfl
  · exact Or.inr ⟨_, rfl, by rw [show en_elt sa_m140.2.1 0 = 8589934592 from by decide +kernel]; exact (en_v_ref (by decide) (by decide)).mpr rfl⟩
  · exact Or.inr ⟨_, rfl, by rw [show en_elt sa_m140.2.1 1 = 73786976299133173759 from by decide +kernel]; exact en_any_v _⟩
theorem wl_c_tell {a1 : Int32} (hS : ∀ ρ, en_SA E ρ (wl_o x y) mt_SB) (h8 : ∃ q, E.2[8]? = some q) (hL : wl_W E wl_H x y h) (hd : gs.length ≤ 900) (kk : ∀ (h' : mm_H) (r : Int32), wl_W E wl_H x y h' → en_Good E mt_kds mt_P 1000 FIN (mm_back (some (.int r)) gs h')) : en_Good E mt_kds mt_P 1000 FIN ((266, 0, [(0, .ref (E.1 + 0)), (1, .int a1)], [], 0, 0) :: gs, h, none) :=
  wl_call (M := sa_m140) (Hi := wl_H) (Ho := wl_H) (sa_k140 hS rd_JX (sf_MnA_ok h8)) wl_c_tell1 wl_c_tell2 (fun _ _ _ => rfl) (by decide) wl_H_n wl_H_n (cs := mt_266.1) (nL := 2) (dd := mt_266.2.2) rfl hL (fun ρ => wl_c_tell3) (by omega) (fun vo h' hL2 hv => by
    obtain ⟨r, rfl⟩ := wl_vo (c := 83010348329545498633) (by decide +kernel) hv
    exact kk h' r hL2)
theorem wl_m_tell1 : sf_cells (sf_w0 0 0) wl_H zb_m460.2.2.1 zb_m460.2.2.2.2.1 = true := by decide +kernel
theorem wl_m_tell2 : sf_cells (sf_w0 0 0) zb_m460.2.2.2.1 wl_H zb_m460.2.2.2.2.1 = true := by decide +kernel
theorem wl_m_tell3 {ρ : Nat → Int32} {ω : Nat → Value} {a1 : Int32} : en_lr E ρ ω 2 zb_m460.2.1 [(0, .ref (E.1 + 88)), (1, .int a1)] := by
  intro i hi
  have hc : i = 0 ∨ i = 1 := by omega
  rcases hc with rfl | rfl
  · exact Or.inr ⟨_, rfl, by rw [show en_elt zb_m460.2.1 0 = 8589934680 from by decide +kernel]; exact (en_v_ref (by decide) (by decide)).mpr rfl⟩
  · exact Or.inr ⟨_, rfl, by rw [show en_elt zb_m460.2.1 1 = 73786976299133173759 from by decide +kernel]; exact en_any_v _⟩
theorem wl_m_tell {a1 : Int32} (hS : ∀ ρ, en_SA E ρ (wl_o x y) mt_SB) (hL : wl_W E wl_H x y h) (hd : gs.length ≤ 900) (kk : ∀ (h' : mm_H) (r : Int32), wl_W E wl_H x y h' → en_Good E mt_kds mt_P 1000 FIN (mm_back (some (.int r)) gs h')) : en_Good E mt_kds mt_P 1000 FIN ((96, 0, [(0, .ref (E.1 + 88)), (1, .int a1)], [], 0, 0) :: gs, h, none) :=
  wl_call (M := zb_m460) (Hi := wl_H) (Ho := wl_H) (zb_k460 hS rd_JX rd_MnB) wl_m_tell1 wl_m_tell2 (fun _ _ _ => rfl) (by decide) wl_H_n wl_H_n (cs := mt_96.1) (nL := 2) (dd := mt_96.2.2) rfl hL (fun ρ => wl_m_tell3) (by omega) (fun vo h' hL2 hv => by
    obtain ⟨r, rfl⟩ := wl_vo (c := 83010348329545498633) (by decide +kernel) hv
    exact kk h' r hL2)
theorem wl_c_cheats1 : sf_cells (sf_w0 0 0) wl_H sa_m143.2.2.1 sa_m143.2.2.2.2.1 = true := by decide +kernel
theorem wl_c_cheats2 : sf_cells (sf_w0 0 0) sa_m143.2.2.2.1 wl_H sa_m143.2.2.2.2.1 = true := by decide +kernel
theorem wl_c_cheats3 {ρ : Nat → Int32} {ω : Nat → Value} {a1 a2 a3 : Int32} (ha3 : a3.toInt = 0 ∨ a3.toInt = 1) : en_lr E ρ ω 5 sa_m143.2.1 [(0, .ref (E.1 + 0)), (1, .int a1), (2, .int a2), (3, .int a3)] := by
  intro i hi
  have hc : i = 0 ∨ i = 1 ∨ i = 2 ∨ i = 3 ∨ i = 4 := by omega
  rcases hc with rfl | rfl | rfl | rfl | rfl
  · exact Or.inr ⟨_, rfl, by rw [show en_elt sa_m143.2.1 0 = 8589934592 from by decide +kernel]; exact (en_v_ref (by decide) (by decide)).mpr rfl⟩
  · exact Or.inr ⟨_, rfl, by rw [show en_elt sa_m143.2.1 1 = 73786976299133173759 from by decide +kernel]; exact en_any_v _⟩
  · exact Or.inr ⟨_, rfl, by rw [show en_elt sa_m143.2.1 2 = 73786976299133173759 from by decide +kernel]; exact en_any_v _⟩
  · exact Or.inr ⟨_, rfl, by rw [show en_elt sa_m143.2.1 3 = 83010348333840465921 from by decide +kernel]; exact wl_b ha3⟩
  · exact Or.inl (by decide +kernel)
theorem wl_c_cheats {a1 a2 a3 : Int32} (ha3 : a3.toInt = 0 ∨ a3.toInt = 1) (hS : ∀ ρ, en_SA E ρ (wl_o x y) mt_SB) (h8 : ∃ q, E.2[8]? = some q) (hL : wl_W E wl_H x y h) (hd : gs.length ≤ 900) (kk : ∀ (h' : mm_H) (r : Int32), wl_W E wl_H x y h' → en_Good E mt_kds mt_P 1000 FIN (mm_back (some (.int r)) gs h')) : en_Good E mt_kds mt_P 1000 FIN ((225, 0, [(0, .ref (E.1 + 0)), (1, .int a1), (2, .int a2), (3, .int a3)], [], 0, 0) :: gs, h, none) :=
  wl_call (M := sa_m143) (Hi := wl_H) (Ho := wl_H) (sa_k143 hS rd_JX (sf_MnA_ok h8)) wl_c_cheats1 wl_c_cheats2 (fun _ _ _ => rfl) (by decide) wl_H_n wl_H_n (cs := mt_225.1) (nL := 5) (dd := mt_225.2.2) rfl hL (fun ρ => wl_c_cheats3 ha3) (by omega) (fun vo h' hL2 hv => by
    obtain ⟨r, rfl⟩ := wl_vo (c := 73786976299133173759) (by decide +kernel) hv
    exact kk h' r hL2)
theorem wl_m_cheats1 : sf_cells (sf_w0 0 0) wl_H zb_m475.2.2.1 zb_m475.2.2.2.2.1 = true := by decide +kernel
theorem wl_m_cheats2 : sf_cells (sf_w0 0 0) zb_m475.2.2.2.1 wl_H zb_m475.2.2.2.2.1 = true := by decide +kernel
theorem wl_m_cheats3 {ρ : Nat → Int32} {ω : Nat → Value} {a1 a2 a3 : Int32} (ha3 : a3.toInt = 0 ∨ a3.toInt = 1) : en_lr E ρ ω 5 zb_m475.2.1 [(0, .ref (E.1 + 88)), (1, .int a1), (2, .int a2), (3, .int a3)] := by
  intro i hi
  have hc : i = 0 ∨ i = 1 ∨ i = 2 ∨ i = 3 ∨ i = 4 := by omega
  rcases hc with rfl | rfl | rfl | rfl | rfl
  · exact Or.inr ⟨_, rfl, by rw [show en_elt zb_m475.2.1 0 = 8589934680 from by decide +kernel]; exact (en_v_ref (by decide) (by decide)).mpr rfl⟩
  · exact Or.inr ⟨_, rfl, by rw [show en_elt zb_m475.2.1 1 = 73786976299133173759 from by decide +kernel]; exact en_any_v _⟩
  · exact Or.inr ⟨_, rfl, by rw [show en_elt zb_m475.2.1 2 = 73786976299133173759 from by decide +kernel]; exact en_any_v _⟩
  · exact Or.inr ⟨_, rfl, by rw [show en_elt zb_m475.2.1 3 = 83010348333840465921 from by decide +kernel]; exact wl_b ha3⟩
  · exact Or.inl (by decide +kernel)
theorem wl_m_cheats {a1 a2 a3 : Int32} (ha3 : a3.toInt = 0 ∨ a3.toInt = 1) (hS : ∀ ρ, en_SA E ρ (wl_o x y) mt_SB) (hL : wl_W E wl_H x y h) (hd : gs.length ≤ 900) (kk : ∀ (h' : mm_H) (r : Int32), wl_W E wl_H x y h' → en_Good E mt_kds mt_P 1000 FIN (mm_back (some (.int r)) gs h')) : en_Good E mt_kds mt_P 1000 FIN ((14, 0, [(0, .ref (E.1 + 88)), (1, .int a1), (2, .int a2), (3, .int a3)], [], 0, 0) :: gs, h, none) :=
  wl_call (M := zb_m475) (Hi := wl_H) (Ho := wl_H) (zb_k475 hS rd_JX rd_MnB) wl_m_cheats1 wl_m_cheats2 (fun _ _ _ => rfl) (by decide) wl_H_n wl_H_n (cs := mt_14.1) (nL := 5) (dd := mt_14.2.2) rfl hL (fun ρ => wl_m_cheats3 ha3) (by omega) (fun vo h' hL2 hv => by
    obtain ⟨r, rfl⟩ := wl_vo (c := 73786976299133173759) (by decide +kernel) hv
    exact kk h' r hL2)
theorem wl_c_surely1 : sf_cells (sf_w0 0 0) wl_H sa_m144.2.2.1 sa_m144.2.2.2.2.1 = true := by decide +kernel
theorem wl_c_surely2 : sf_cells (sf_w0 0 0) sa_m144.2.2.2.1 wl_H sa_m144.2.2.2.2.1 = true := by decide +kernel
theorem wl_c_surely3 {ρ : Nat → Int32} {ω : Nat → Value} {a1 : Int32} : en_lr E ρ ω 7 sa_m144.2.1 [(0, .ref (E.1 + 0)), (1, .int a1)] := by
  intro i hi
  have hc : i = 0 ∨ i = 1 ∨ i = 2 ∨ i = 3 ∨ i = 4 ∨ i = 5 ∨ i = 6 := by omega
  rcases hc with rfl | rfl | rfl | rfl | rfl | rfl | rfl
  · exact Or.inr ⟨_, rfl, by rw [show en_elt sa_m144.2.1 0 = 8589934592 from by decide +kernel]; exact (en_v_ref (by decide) (by decide)).mpr rfl⟩
  · exact Or.inr ⟨_, rfl, by rw [show en_elt sa_m144.2.1 1 = 73786976299133173759 from by decide +kernel]; exact en_any_v _⟩
  · exact Or.inl (by decide +kernel)
  · exact Or.inl (by decide +kernel)
  · exact Or.inl (by decide +kernel)
  · exact Or.inl (by decide +kernel)
  · exact Or.inl (by decide +kernel)
theorem wl_c_surely {a1 : Int32} (hS : ∀ ρ, en_SA E ρ (wl_o x y) mt_SB) (h8 : ∃ q, E.2[8]? = some q) (hL : wl_W E wl_H x y h) (hd : gs.length ≤ 900) (kk : ∀ (h' : mm_H) (r : Int32), wl_W E wl_H x y h' → en_Good E mt_kds mt_P 1000 FIN (mm_back (some (.int r)) gs h')) : en_Good E mt_kds mt_P 1000 FIN ((264, 0, [(0, .ref (E.1 + 0)), (1, .int a1)], [], 0, 0) :: gs, h, none) :=
  wl_call (M := sa_m144) (Hi := wl_H) (Ho := wl_H) (sa_k144 hS rd_JX (sf_MnA_ok h8)) wl_c_surely1 wl_c_surely2 (fun _ _ _ => rfl) (by decide) wl_H_n wl_H_n (cs := mt_264.1) (nL := 7) (dd := mt_264.2.2) rfl hL (fun ρ => wl_c_surely3) (by omega) (fun vo h' hL2 hv => by
    obtain ⟨r, rfl⟩ := wl_vo (c := 83010348325250531338) (by decide +kernel) hv
    exact kk h' r hL2)
theorem wl_m_surely1 : sf_cells (sf_w0 0 0) wl_H zb_m478.2.2.1 zb_m478.2.2.2.2.1 = true := by decide +kernel
theorem wl_m_surely2 : sf_cells (sf_w0 0 0) zb_m478.2.2.2.1 wl_H zb_m478.2.2.2.2.1 = true := by decide +kernel
theorem wl_m_surely3 {ρ : Nat → Int32} {ω : Nat → Value} {a1 : Int32} : en_lr E ρ ω 7 zb_m478.2.1 [(0, .ref (E.1 + 88)), (1, .int a1)] := by
  intro i hi
  have hc : i = 0 ∨ i = 1 ∨ i = 2 ∨ i = 3 ∨ i = 4 ∨ i = 5 ∨ i = 6 := by omega
  rcases hc with rfl | rfl | rfl | rfl | rfl | rfl | rfl
  · exact Or.inr ⟨_, rfl, by rw [show en_elt zb_m478.2.1 0 = 8589934680 from by decide +kernel]; exact (en_v_ref (by decide) (by decide)).mpr rfl⟩
  · exact Or.inr ⟨_, rfl, by rw [show en_elt zb_m478.2.1 1 = 73786976299133173759 from by decide +kernel]; exact en_any_v _⟩
  · exact Or.inl (by decide +kernel)
  · exact Or.inl (by decide +kernel)
  · exact Or.inl (by decide +kernel)
  · exact Or.inl (by decide +kernel)
  · exact Or.inl (by decide +kernel)
theorem wl_m_surely {a1 : Int32} (hS : ∀ ρ, en_SA E ρ (wl_o x y) mt_SB) (hL : wl_W E wl_H x y h) (hd : gs.length ≤ 900) (kk : ∀ (h' : mm_H) (r : Int32), wl_W E wl_H x y h' → en_Good E mt_kds mt_P 1000 FIN (mm_back (some (.int r)) gs h')) : en_Good E mt_kds mt_P 1000 FIN ((95, 0, [(0, .ref (E.1 + 88)), (1, .int a1)], [], 0, 0) :: gs, h, none) :=
  wl_call (M := zb_m478) (Hi := wl_H) (Ho := wl_H) (zb_k478 hS rd_JX rd_MnB) wl_m_surely1 wl_m_surely2 (fun _ _ _ => rfl) (by decide) wl_H_n wl_H_n (cs := mt_95.1) (nL := 7) (dd := mt_95.2.2) rfl hL (fun ρ => wl_m_surely3) (by omega) (fun vo h' hL2 hv => by
    obtain ⟨r, rfl⟩ := wl_vo (c := 83010348325250531338) (by decide +kernel) hv
    exact kk h' r hL2)
theorem wl_c_log1 : sf_cells (sf_w0 0 0) wl_H sa_m145.2.2.1 sa_m145.2.2.2.2.1 = true := by decide +kernel
theorem wl_c_log2 : sf_cells (sf_w0 0 0) sa_m145.2.2.2.1 wl_H sa_m145.2.2.2.2.1 = true := by decide +kernel
theorem wl_c_log3 {ρ : Nat → Int32} {ω : Nat → Value} {a1 a2 : Int32} : en_lr E ρ ω 3 sa_m145.2.1 [(0, .ref (E.1 + 0)), (1, .int a1), (2, .int a2)] := by
  intro i hi
  have hc : i = 0 ∨ i = 1 ∨ i = 2 := by omega
  rcases hc with rfl | rfl | rfl
  · exact Or.inr ⟨_, rfl, by rw [show en_elt sa_m145.2.1 0 = 8589934592 from by decide +kernel]; exact (en_v_ref (by decide) (by decide)).mpr rfl⟩
  · exact Or.inr ⟨_, rfl, by rw [show en_elt sa_m145.2.1 1 = 73786976299133173759 from by decide +kernel]; exact en_any_v _⟩
  · exact Or.inr ⟨_, rfl, by rw [show en_elt sa_m145.2.1 2 = 73786976299133173759 from by decide +kernel]; exact en_any_v _⟩
theorem wl_c_log {a1 a2 : Int32} (hS : ∀ ρ, en_SA E ρ (wl_o x y) mt_SB) (h8 : ∃ q, E.2[8]? = some q) (hL : wl_W E wl_H x y h) (hd : gs.length ≤ 900) (kk : ∀ (h' : mm_H) (r : Int32), wl_W E wl_H x y h' → en_Good E mt_kds mt_P 1000 FIN (mm_back (some (.int r)) gs h')) : en_Good E mt_kds mt_P 1000 FIN ((243, 0, [(0, .ref (E.1 + 0)), (1, .int a1), (2, .int a2)], [], 0, 0) :: gs, h, none) :=
  wl_call (M := sa_m145) (Hi := wl_H) (Ho := wl_H) (sa_k145 hS rd_JX (sf_MnA_ok h8)) wl_c_log1 wl_c_log2 (fun _ _ _ => rfl) (by decide) wl_H_n wl_H_n (cs := mt_243.1) (nL := 3) (dd := mt_243.2.2) rfl hL (fun ρ => wl_c_log3) (by omega) (fun vo h' hL2 hv => by
    obtain ⟨r, rfl⟩ := wl_vo (c := 83010348329545498643) (by decide +kernel) hv
    exact kk h' r hL2)
theorem wl_m_log1 : sf_cells (sf_w0 0 0) wl_H zb_m479.2.2.1 zb_m479.2.2.2.2.1 = true := by decide +kernel
theorem wl_m_log2 : sf_cells (sf_w0 0 0) zb_m479.2.2.2.1 wl_H zb_m479.2.2.2.2.1 = true := by decide +kernel
theorem wl_m_log3 {ρ : Nat → Int32} {ω : Nat → Value} {a1 a2 : Int32} : en_lr E ρ ω 3 zb_m479.2.1 [(0, .ref (E.1 + 88)), (1, .int a1), (2, .int a2)] := by
  intro i hi
  have hc : i = 0 ∨ i = 1 ∨ i = 2 := by omega
  rcases hc with rfl | rfl | rfl
  · exact Or.inr ⟨_, rfl, by rw [show en_elt zb_m479.2.1 0 = 8589934680 from by decide +kernel]; exact (en_v_ref (by decide) (by decide)).mpr rfl⟩
  · exact Or.inr ⟨_, rfl, by rw [show en_elt zb_m479.2.1 1 = 73786976299133173759 from by decide +kernel]; exact en_any_v _⟩
  · exact Or.inr ⟨_, rfl, by rw [show en_elt zb_m479.2.1 2 = 73786976299133173759 from by decide +kernel]; exact en_any_v _⟩
theorem wl_m_log {a1 a2 : Int32} (hS : ∀ ρ, en_SA E ρ (wl_o x y) mt_SB) (hL : wl_W E wl_H x y h) (hd : gs.length ≤ 900) (kk : ∀ (h' : mm_H) (r : Int32), wl_W E wl_H x y h' → en_Good E mt_kds mt_P 1000 FIN (mm_back (some (.int r)) gs h')) : en_Good E mt_kds mt_P 1000 FIN ((60, 0, [(0, .ref (E.1 + 88)), (1, .int a1), (2, .int a2)], [], 0, 0) :: gs, h, none) :=
  wl_call (M := zb_m479) (Hi := wl_H) (Ho := wl_H) (zb_k479 hS rd_JX rd_MnB) wl_m_log1 wl_m_log2 (fun _ _ _ => rfl) (by decide) wl_H_n wl_H_n (cs := mt_60.1) (nL := 3) (dd := mt_60.2.2) rfl hL (fun ρ => wl_m_log3) (by omega) (fun vo h' hL2 hv => by
    obtain ⟨r, rfl⟩ := wl_vo (c := 83010348329545498643) (by decide +kernel) hv
    exact kk h' r hL2)
theorem wl_c_began1 : sf_cells (sf_w0 0 0) wl_H sa_m155.2.2.1 sa_m155.2.2.2.2.1 = true := by decide +kernel
theorem wl_c_began2 : sf_cells (sf_w0 0 0) sa_m155.2.2.2.1 wl_H sa_m155.2.2.2.2.1 = true := by decide +kernel
theorem wl_c_began3 {ρ : Nat → Int32} {ω : Nat → Value} {a1 a2 : Int32} : en_lr E ρ ω 6 sa_m155.2.1 [(0, .ref (E.1 + 0)), (1, .int a1), (2, .int a2)] := by
  intro i hi
  have hc : i = 0 ∨ i = 1 ∨ i = 2 ∨ i = 3 ∨ i = 4 ∨ i = 5 := by omega
  rcases hc with rfl | rfl | rfl | rfl | rfl | rfl
  · exact Or.inr ⟨_, rfl, by rw [show en_elt sa_m155.2.1 0 = 8589934592 from by decide +kernel]; exact (en_v_ref (by decide) (by decide)).mpr rfl⟩
  · exact Or.inr ⟨_, rfl, by rw [show en_elt sa_m155.2.1 1 = 73786976299133173759 from by decide +kernel]; exact en_any_v _⟩
  · exact Or.inr ⟨_, rfl, by rw [show en_elt sa_m155.2.1 2 = 73786976299133173759 from by decide +kernel]; exact en_any_v _⟩
  · exact Or.inl (by decide +kernel)
  · exact Or.inl (by decide +kernel)
  · exact Or.inl (by decide +kernel)
theorem wl_c_began {a1 a2 : Int32} (hS : ∀ ρ, en_SA E ρ (wl_o x y) mt_SB) (h8 : ∃ q, E.2[8]? = some q) (hL : wl_W E wl_H x y h) (hd : gs.length ≤ 900) (kk : ∀ (h' : mm_H) (r : Int32), wl_W E wl_H x y h' → en_Good E mt_kds mt_P 1000 FIN (mm_back (some (.int r)) gs h')) : en_Good E mt_kds mt_P 1000 FIN ((222, 0, [(0, .ref (E.1 + 0)), (1, .int a1), (2, .int a2)], [], 0, 0) :: gs, h, none) :=
  wl_call (M := sa_m155) (Hi := wl_H) (Ho := wl_H) (sa_k155 hS rd_JX (sf_MnA_ok h8)) wl_c_began1 wl_c_began2 (fun _ _ _ => rfl) (by decide) wl_H_n wl_H_n (cs := mt_222.1) (nL := 6) (dd := mt_222.2.2) rfl hL (fun ρ => wl_c_began3) (by omega) (fun vo h' hL2 hv => by
    obtain ⟨r, rfl⟩ := wl_vo (c := 73786976299133173759) (by decide +kernel) hv
    exact kk h' r hL2)
theorem wl_m_began1 : sf_cells (sf_w0 0 0) wl_H zb_m482.2.2.1 zb_m482.2.2.2.2.1 = true := by decide +kernel
theorem wl_m_began2 : sf_cells (sf_w0 0 0) zb_m482.2.2.2.1 wl_H zb_m482.2.2.2.2.1 = true := by decide +kernel
theorem wl_m_began3 {ρ : Nat → Int32} {ω : Nat → Value} {a1 a2 : Int32} : en_lr E ρ ω 5 zb_m482.2.1 [(0, .ref (E.1 + 88)), (1, .int a1), (2, .int a2)] := by
  intro i hi
  have hc : i = 0 ∨ i = 1 ∨ i = 2 ∨ i = 3 ∨ i = 4 := by omega
  rcases hc with rfl | rfl | rfl | rfl | rfl
  · exact Or.inr ⟨_, rfl, by rw [show en_elt zb_m482.2.1 0 = 8589934680 from by decide +kernel]; exact (en_v_ref (by decide) (by decide)).mpr rfl⟩
  · exact Or.inr ⟨_, rfl, by rw [show en_elt zb_m482.2.1 1 = 73786976299133173759 from by decide +kernel]; exact en_any_v _⟩
  · exact Or.inr ⟨_, rfl, by rw [show en_elt zb_m482.2.1 2 = 73786976299133173759 from by decide +kernel]; exact en_any_v _⟩
  · exact Or.inl (by decide +kernel)
  · exact Or.inl (by decide +kernel)
theorem wl_m_began {a1 a2 : Int32} (hS : ∀ ρ, en_SA E ρ (wl_o x y) mt_SB) (hL : wl_W E wl_H x y h) (hd : gs.length ≤ 900) (kk : ∀ (h' : mm_H) (r : Int32), wl_W E wl_H x y h' → en_Good E mt_kds mt_P 1000 FIN (mm_back (some (.int r)) gs h')) : en_Good E mt_kds mt_P 1000 FIN ((6, 0, [(0, .ref (E.1 + 88)), (1, .int a1), (2, .int a2)], [], 0, 0) :: gs, h, none) :=
  wl_call (M := zb_m482) (Hi := wl_H) (Ho := wl_H) (zb_k482 hS rd_JX rd_MnB) wl_m_began1 wl_m_began2 (fun _ _ _ => rfl) (by decide) wl_H_n wl_H_n (cs := mt_6.1) (nL := 5) (dd := mt_6.2.2) rfl hL (fun ρ => wl_m_began3) (by omega) (fun vo h' hL2 hv => by
    obtain ⟨r, rfl⟩ := wl_vo (c := 73786976299133173759) (by decide +kernel) hv
    exact kk h' r hL2)
theorem wl_c_forget1 : sf_cells (sf_w0 0 0) wl_H sa_m156.2.2.1 sa_m156.2.2.2.2.1 = true := by decide +kernel
theorem wl_c_forget2 : sf_cells (sf_w0 0 0) sa_m156.2.2.2.1 wl_H sa_m156.2.2.2.2.1 = true := by decide +kernel
theorem wl_c_forget3 {ρ : Nat → Int32} {ω : Nat → Value} : en_lr E ρ ω 2 sa_m156.2.1 [(0, .ref (E.1 + 0))] := by
  intro i hi
  have hc : i = 0 ∨ i = 1 := by omega
  rcases hc with rfl | rfl
  · exact Or.inr ⟨_, rfl, by rw [show en_elt sa_m156.2.1 0 = 8589934592 from by decide +kernel]; exact (en_v_ref (by decide) (by decide)).mpr rfl⟩
  · exact Or.inl (by decide +kernel)
theorem wl_c_forget (hS : ∀ ρ, en_SA E ρ (wl_o x y) mt_SB) (h8 : ∃ q, E.2[8]? = some q) (hL : wl_W E wl_H x y h) (hd : gs.length ≤ 900) (kk : ∀ (h' : mm_H) (r : Int32), wl_W E wl_H x y h' → en_Good E mt_kds mt_P 1000 FIN (mm_back (some (.int r)) gs h')) : en_Good E mt_kds mt_P 1000 FIN ((232, 0, [(0, .ref (E.1 + 0))], [], 0, 0) :: gs, h, none) :=
  wl_call (M := sa_m156) (Hi := wl_H) (Ho := wl_H) (sa_k156 hS rd_JX (sf_MnA_ok h8)) wl_c_forget1 wl_c_forget2 (fun _ _ _ => rfl) (by decide) wl_H_n wl_H_n (cs := mt_232.1) (nL := 2) (dd := mt_232.2.2) rfl hL (fun ρ => wl_c_forget3) (by omega) (fun vo h' hL2 hv => by
    obtain ⟨r, rfl⟩ := wl_vo (c := 83010348333840465950) (by decide +kernel) hv
    exact kk h' r hL2)
theorem wl_m_forget1 : sf_cells (sf_w0 0 0) wl_H zb_m483.2.2.1 zb_m483.2.2.2.2.1 = true := by decide +kernel
theorem wl_m_forget2 : sf_cells (sf_w0 0 0) zb_m483.2.2.2.1 wl_H zb_m483.2.2.2.2.1 = true := by decide +kernel
theorem wl_m_forget3 {ρ : Nat → Int32} {ω : Nat → Value} : en_lr E ρ ω 2 zb_m483.2.1 [(0, .ref (E.1 + 88))] := by
  intro i hi
  have hc : i = 0 ∨ i = 1 := by omega
  rcases hc with rfl | rfl
  · exact Or.inr ⟨_, rfl, by rw [show en_elt zb_m483.2.1 0 = 8589934680 from by decide +kernel]; exact (en_v_ref (by decide) (by decide)).mpr rfl⟩
  · exact Or.inl (by decide +kernel)
theorem wl_m_forget (hS : ∀ ρ, en_SA E ρ (wl_o x y) mt_SB) (hL : wl_W E wl_H x y h) (hd : gs.length ≤ 900) (kk : ∀ (h' : mm_H) (r : Int32), wl_W E wl_H x y h' → en_Good E mt_kds mt_P 1000 FIN (mm_back (some (.int r)) gs h')) : en_Good E mt_kds mt_P 1000 FIN ((35, 0, [(0, .ref (E.1 + 88))], [], 0, 0) :: gs, h, none) :=
  wl_call (M := zb_m483) (Hi := wl_H) (Ho := wl_H) (zb_k483 hS rd_JX rd_MnB) wl_m_forget1 wl_m_forget2 (fun _ _ _ => rfl) (by decide) wl_H_n wl_H_n (cs := mt_35.1) (nL := 2) (dd := mt_35.2.2) rfl hL (fun ρ => wl_m_forget3) (by omega) (fun vo h' hL2 hv => by
    obtain ⟨r, rfl⟩ := wl_vo (c := 83010348333840465950) (by decide +kernel) hv
    exact kk h' r hL2)
theorem wl_c_hold1 : sf_cells (sf_w0 0 0) wl_H sa_m157.2.2.1 sa_m157.2.2.2.2.1 = true := by decide +kernel
theorem wl_c_hold2 : sf_cells (sf_w0 0 0) sa_m157.2.2.2.1 wl_H sa_m157.2.2.2.2.1 = true := by decide +kernel
theorem wl_c_hold3 {ρ : Nat → Int32} {ω : Nat → Value} {a1 : Int32} : en_lr E ρ ω 2 sa_m157.2.1 [(0, .ref (E.1 + 0)), (1, .int a1)] := by
  intro i hi
  have hc : i = 0 ∨ i = 1 := by omega
  rcases hc with rfl | rfl
  · exact Or.inr ⟨_, rfl, by rw [show en_elt sa_m157.2.1 0 = 8589934592 from by decide +kernel]; exact (en_v_ref (by decide) (by decide)).mpr rfl⟩
  · exact Or.inr ⟨_, rfl, by rw [show en_elt sa_m157.2.1 1 = 73786976299133173759 from by decide +kernel]; exact en_any_v _⟩
theorem wl_c_hold {a1 : Int32} (hS : ∀ ρ, en_SA E ρ (wl_o x y) mt_SB) (h8 : ∃ q, E.2[8]? = some q) (hL : wl_W E wl_H x y h) (hd : gs.length ≤ 900) (kk : ∀ (h' : mm_H) (r : Int32), wl_W E wl_H x y h' → en_Good E mt_kds mt_P 1000 FIN (mm_back (some (.int r)) gs h')) : en_Good E mt_kds mt_P 1000 FIN ((236, 0, [(0, .ref (E.1 + 0)), (1, .int a1)], [], 0, 0) :: gs, h, none) :=
  wl_call (M := sa_m157) (Hi := wl_H) (Ho := wl_H) (sa_k157 hS rd_JX (sf_MnA_ok h8)) wl_c_hold1 wl_c_hold2 (fun _ _ _ => rfl) (by decide) wl_H_n wl_H_n (cs := mt_236.1) (nL := 2) (dd := mt_236.2.2) rfl hL (fun ρ => wl_c_hold3) (by omega) (fun vo h' hL2 hv => by
    obtain ⟨r, rfl⟩ := wl_vo (c := 83010348333840465921) (by decide +kernel) hv
    exact kk h' r hL2)
theorem wl_m_hold1 : sf_cells (sf_w0 0 0) wl_H zb_m484.2.2.1 zb_m484.2.2.2.2.1 = true := by decide +kernel
theorem wl_m_hold2 : sf_cells (sf_w0 0 0) zb_m484.2.2.2.1 wl_H zb_m484.2.2.2.2.1 = true := by decide +kernel
theorem wl_m_hold3 {ρ : Nat → Int32} {ω : Nat → Value} {a1 : Int32} : en_lr E ρ ω 3 zb_m484.2.1 [(0, .ref (E.1 + 88)), (1, .int a1)] := by
  intro i hi
  have hc : i = 0 ∨ i = 1 ∨ i = 2 := by omega
  rcases hc with rfl | rfl | rfl
  · exact Or.inr ⟨_, rfl, by rw [show en_elt zb_m484.2.1 0 = 8589934680 from by decide +kernel]; exact (en_v_ref (by decide) (by decide)).mpr rfl⟩
  · exact Or.inr ⟨_, rfl, by rw [show en_elt zb_m484.2.1 1 = 73786976299133173759 from by decide +kernel]; exact en_any_v _⟩
  · exact Or.inl (by decide +kernel)
theorem wl_m_hold {a1 : Int32} (hS : ∀ ρ, en_SA E ρ (wl_o x y) mt_SB) (hL : wl_W E wl_H x y h) (hd : gs.length ≤ 900) (kk : ∀ (h' : mm_H) (r : Int32), wl_W E wl_H x y h' → en_Good E mt_kds mt_P 1000 FIN (mm_back (some (.int r)) gs h')) : en_Good E mt_kds mt_P 1000 FIN ((41, 0, [(0, .ref (E.1 + 88)), (1, .int a1)], [], 0, 0) :: gs, h, none) :=
  wl_call (M := zb_m484) (Hi := wl_H) (Ho := wl_H) (zb_k484 hS rd_JX rd_MnB) wl_m_hold1 wl_m_hold2 (fun _ _ _ => rfl) (by decide) wl_H_n wl_H_n (cs := mt_41.1) (nL := 3) (dd := mt_41.2.2) rfl hL (fun ρ => wl_m_hold3) (by omega) (fun vo h' hL2 hv => by
    obtain ⟨r, rfl⟩ := wl_vo (c := 83010348333840465921) (by decide +kernel) hv
    exact kk h' r hL2)
theorem wl_c_restore1 : sf_cells (sf_w0 0 0) wl_H sa_m158.2.2.1 sa_m158.2.2.2.2.1 = true := by decide +kernel
theorem wl_c_restore2 : sf_cells (sf_w0 0 0) sa_m158.2.2.2.1 wl_H sa_m158.2.2.2.2.1 = true := by decide +kernel
theorem wl_c_restore3 {ρ : Nat → Int32} {ω : Nat → Value} {a1 : Int32} : en_lr E ρ ω 2 sa_m158.2.1 [(0, .ref (E.1 + 0)), (1, .int a1)] := by
  intro i hi
  have hc : i = 0 ∨ i = 1 := by omega
  rcases hc with rfl | rfl
  · exact Or.inr ⟨_, rfl, by rw [show en_elt sa_m158.2.1 0 = 8589934592 from by decide +kernel]; exact (en_v_ref (by decide) (by decide)).mpr rfl⟩
  · exact Or.inr ⟨_, rfl, by rw [show en_elt sa_m158.2.1 1 = 73786976299133173759 from by decide +kernel]; exact en_any_v _⟩
theorem wl_c_restore {a1 : Int32} (hS : ∀ ρ, en_SA E ρ (wl_o x y) mt_SB) (h8 : ∃ q, E.2[8]? = some q) (hL : wl_W E wl_H x y h) (hd : gs.length ≤ 900) (kk : ∀ (h' : mm_H) (r : Int32), wl_W E wl_H x y h' → en_Good E mt_kds mt_P 1000 FIN (mm_back (some (.int r)) gs h')) : en_Good E mt_kds mt_P 1000 FIN ((254, 0, [(0, .ref (E.1 + 0)), (1, .int a1)], [], 0, 0) :: gs, h, none) :=
  wl_call (M := sa_m158) (Hi := wl_H) (Ho := wl_H) (sa_k158 hS rd_JX (sf_MnA_ok h8)) wl_c_restore1 wl_c_restore2 (fun _ _ _ => rfl) (by decide) wl_H_n wl_H_n (cs := mt_254.1) (nL := 2) (dd := mt_254.2.2) rfl hL (fun ρ => wl_c_restore3) (by omega) (fun vo h' hL2 hv => by
    obtain ⟨r, rfl⟩ := wl_vo (c := 83010348333840465921) (by decide +kernel) hv
    exact kk h' r hL2)
theorem wl_m_restore1 : sf_cells (sf_w0 0 0) wl_H zb_m485.2.2.1 zb_m485.2.2.2.2.1 = true := by decide +kernel
theorem wl_m_restore2 : sf_cells (sf_w0 0 0) zb_m485.2.2.2.1 wl_H zb_m485.2.2.2.2.1 = true := by decide +kernel
theorem wl_m_restore3 {ρ : Nat → Int32} {ω : Nat → Value} {a1 : Int32} : en_lr E ρ ω 3 zb_m485.2.1 [(0, .ref (E.1 + 88)), (1, .int a1)] := by
  intro i hi
  have hc : i = 0 ∨ i = 1 ∨ i = 2 := by omega
  rcases hc with rfl | rfl | rfl
  · exact Or.inr ⟨_, rfl, by rw [show en_elt zb_m485.2.1 0 = 8589934680 from by decide +kernel]; exact (en_v_ref (by decide) (by decide)).mpr rfl⟩
  · exact Or.inr ⟨_, rfl, by rw [show en_elt zb_m485.2.1 1 = 73786976299133173759 from by decide +kernel]; exact en_any_v _⟩
  · exact Or.inl (by decide +kernel)
theorem wl_m_restore {a1 : Int32} (hS : ∀ ρ, en_SA E ρ (wl_o x y) mt_SB) (hL : wl_W E wl_H x y h) (hd : gs.length ≤ 900) (kk : ∀ (h' : mm_H) (r : Int32), wl_W E wl_H x y h' → en_Good E mt_kds mt_P 1000 FIN (mm_back (some (.int r)) gs h')) : en_Good E mt_kds mt_P 1000 FIN ((78, 0, [(0, .ref (E.1 + 88)), (1, .int a1)], [], 0, 0) :: gs, h, none) :=
  wl_call (M := zb_m485) (Hi := wl_H) (Ho := wl_H) (zb_k485 hS rd_JX rd_MnB) wl_m_restore1 wl_m_restore2 (fun _ _ _ => rfl) (by decide) wl_H_n wl_H_n (cs := mt_78.1) (nL := 3) (dd := mt_78.2.2) rfl hL (fun ρ => wl_m_restore3) (by omega) (fun vo h' hL2 hv => by
    obtain ⟨r, rfl⟩ := wl_vo (c := 83010348333840465921) (by decide +kernel) hv
    exact kk h' r hL2)
theorem wl_c_count1 : sf_cells (sf_w0 0 0) wl_H sa_m161.2.2.1 sa_m161.2.2.2.2.1 = true := by decide +kernel
theorem wl_c_count2 : sf_cells (sf_w0 0 0) sa_m161.2.2.2.1 wl_H sa_m161.2.2.2.2.1 = true := by decide +kernel
theorem wl_c_count3 {ρ : Nat → Int32} {ω : Nat → Value} {a1 : Int32} : en_lr E ρ ω 2 sa_m161.2.1 [(0, .ref (E.1 + 0)), (1, .int a1)] := by
  intro i hi
  have hc : i = 0 ∨ i = 1 := by omega
  rcases hc with rfl | rfl
  · exact Or.inr ⟨_, rfl, by rw [show en_elt sa_m161.2.1 0 = 8589934592 from by decide +kernel]; exact (en_v_ref (by decide) (by decide)).mpr rfl⟩
  · exact Or.inr ⟨_, rfl, by rw [show en_elt sa_m161.2.1 1 = 73786976299133173759 from by decide +kernel]; exact en_any_v _⟩
theorem wl_c_count {a1 : Int32} (hS : ∀ ρ, en_SA E ρ (wl_o x y) mt_SB) (h8 : ∃ q, E.2[8]? = some q) (hL : wl_W E wl_H x y h) (hd : gs.length ≤ 900) (kk : ∀ (h' : mm_H) (r : Int32), wl_W E wl_H x y h' → en_Good E mt_kds mt_P 1000 FIN (mm_back (some (.int r)) gs h')) : en_Good E mt_kds mt_P 1000 FIN ((227, 0, [(0, .ref (E.1 + 0)), (1, .int a1)], [], 0, 0) :: gs, h, none) :=
  wl_call (M := sa_m161) (Hi := wl_H) (Ho := wl_H) (sa_k161 hS rd_JX (sf_MnA_ok h8) wl_oW) wl_c_count1 wl_c_count2 (fun _ _ _ => rfl) (by decide) wl_H_n wl_H_n (cs := mt_227.1) (nL := 2) (dd := mt_227.2.2) rfl hL (fun ρ => wl_c_count3) (by omega) (fun vo h' hL2 hv => by
    obtain ⟨r, rfl⟩ := wl_vo (c := 73786976299133173759) (by decide +kernel) hv
    exact kk h' r hL2)
theorem wl_m_count1 : sf_cells (sf_w0 0 0) wl_H zb_m486.2.2.1 zb_m486.2.2.2.2.1 = true := by decide +kernel
theorem wl_m_count2 : sf_cells (sf_w0 0 0) zb_m486.2.2.2.1 wl_H zb_m486.2.2.2.2.1 = true := by decide +kernel
theorem wl_m_count3 {ρ : Nat → Int32} {ω : Nat → Value} {a1 : Int32} : en_lr E ρ ω 4 zb_m486.2.1 [(0, .ref (E.1 + 88)), (1, .int a1)] := by
  intro i hi
  have hc : i = 0 ∨ i = 1 ∨ i = 2 ∨ i = 3 := by omega
  rcases hc with rfl | rfl | rfl | rfl
  · exact Or.inr ⟨_, rfl, by rw [show en_elt zb_m486.2.1 0 = 8589934680 from by decide +kernel]; exact (en_v_ref (by decide) (by decide)).mpr rfl⟩
  · exact Or.inr ⟨_, rfl, by rw [show en_elt zb_m486.2.1 1 = 73786976299133173759 from by decide +kernel]; exact en_any_v _⟩
  · exact Or.inl (by decide +kernel)
  · exact Or.inl (by decide +kernel)
theorem wl_m_count {a1 : Int32} (hS : ∀ ρ, en_SA E ρ (wl_o x y) mt_SB) (hL : wl_W E wl_H x y h) (hd : gs.length ≤ 900) (kk : ∀ (h' : mm_H) (r : Int32), wl_W E wl_H x y h' → en_Good E mt_kds mt_P 1000 FIN (mm_back (some (.int r)) gs h')) : en_Good E mt_kds mt_P 1000 FIN ((18, 0, [(0, .ref (E.1 + 88)), (1, .int a1)], [], 0, 0) :: gs, h, none) :=
  wl_call (M := zb_m486) (Hi := wl_H) (Ho := wl_H) (zb_k486 hS rd_JX rd_MnB wl_oW) wl_m_count1 wl_m_count2 (fun _ _ _ => rfl) (by decide) wl_H_n wl_H_n (cs := mt_18.1) (nL := 4) (dd := mt_18.2.2) rfl hL (fun ρ => wl_m_count3) (by omega) (fun vo h' hL2 hv => by
    obtain ⟨r, rfl⟩ := wl_vo (c := 73786976299133173759) (by decide +kernel) hv
    exact kk h' r hL2)
theorem wl_io : ∀ k, k < 136 → k ∉ sa_m53.2.2.2.2.1 → en_get wl_H00 k = en_get wl_H0 k := by decide +kernel
theorem wl_c_read1 : sf_cells (sf_w0 0 0) wl_H0 sa_m53.2.2.1 sa_m53.2.2.2.2.1 = true := by decide +kernel
theorem wl_c_read2 : sf_cells (sf_w0 0 0) sa_m53.2.2.2.1 wl_H00 sa_m53.2.2.2.2.1 = true := by decide +kernel
theorem wl_c_read3 {ρ : Nat → Int32} {ω : Nat → Value} : en_lr E ρ ω 2 sa_m53.2.1 [(0, .ref (E.1 + 0))] := by
  intro i hi
  have hc : i = 0 ∨ i = 1 := by omega
  rcases hc with rfl | rfl
  · exact Or.inr ⟨_, rfl, by rw [show en_elt sa_m53.2.1 0 = 8589934592 from by decide +kernel]; exact (en_v_ref (by decide) (by decide)).mpr rfl⟩
  · exact Or.inl (by decide +kernel)
theorem wl_c_read (hS : ∀ ρ, en_SA E ρ (wl_o x y) mt_SB) (h8 : ∃ q, E.2[8]? = some q) (hL : wl_W E wl_H0 x y h) (hd : gs.length ≤ 900) (kk : ∀ (h' : mm_H) (r : Int32), wl_W E wl_H00 x y h' → en_Good E mt_kds mt_P 1000 FIN (mm_back (some (.int r)) gs h')) : en_Good E mt_kds mt_P 1000 FIN ((253, 0, [(0, .ref (E.1 + 0))], [], 0, 0) :: gs, h, none) :=
  wl_call (M := sa_m53) (Hi := wl_H0) (Ho := wl_H00) (sa_k53 hS rd_JX (sf_MnA_ok h8)) wl_c_read1 wl_c_read2 wl_io (by decide) wl_H0_n wl_H00_n (cs := mt_253.1) (nL := 2) (dd := mt_253.2.2) rfl hL (fun ρ => wl_c_read3) (by omega) (fun vo h' hL2 hv => by
    obtain ⟨r, rfl⟩ := wl_vo (c := 73786976299133173759) (by decide +kernel) hv
    exact kk h' r hL2)
theorem wl_c3 : ∀ j, j < 11 → j ≠ 1 → en_elt (en_get wl_H0 0) j = en_elt (en_get wl_H 0) j := by decide +kernel
theorem wl_c4 : ∀ j, j < 11 → j ≠ 1 → en_elt (en_get wl_H00 0) j = en_elt (en_get wl_H 0) j := by decide +kernel
theorem wl_c5 : ∀ k, k < 136 → k ≠ 0 → en_get wl_H0 k = en_get wl_H k := by decide +kernel
theorem wl_c6 : ∀ k, k < 136 → k ≠ 0 → en_get wl_H00 k = en_get wl_H k := by decide +kernel
theorem wl_c7 : en_elt (en_get wl_H 0) 1 = 17179869184 := by decide +kernel
theorem wl_c8 : ∀ j, j < 11 → j ≠ 1 → en_elt (en_get wl_H 0) j < 17179869184 ∨ 18446744073709551616 ≤ en_elt (en_get wl_H 0) j := by decide +kernel
/-- the class reads: what is on its tape is a number; then it is 0 -/
theorem wl_c_read0 (hS : ∀ ρ, en_SA E ρ (wl_o x y) mt_SB) (h8 : ∃ q, E.2[8]? = some q) (hL : wl_W E wl_H x y h) (hd : gs.length ≤ 900) (kk : ∀ (h' : mm_H) (r : Int32), wl_W E wl_H 0 y h' → en_Good E mt_kds mt_P 1000 FIN (mm_back (some (.int r)) gs h')) : en_Good E mt_kds mt_P 1000 FIN ((253, 0, [(0, .ref (E.1 + 0))], [], 0, 0) :: gs, h, none) := by
  obtain ⟨hl, hJ, hx, hy, hh⟩ := hL
  have hL0 : wl_W E wl_H0 x y h := by
    refine ⟨hl, hJ, hx, hy, fun ρ k => ⟨fun hk hkd => ?_, fun _ => rfl⟩⟩
    by_cases e : k = 0
    · subst e
      obtain ⟨fs, f1, f2, f3⟩ := br_o0 wl_c1 (hh ρ)
      rw [wl_c2] at f2
      refine Or.inr (Or.inr (Or.inr ⟨8, fs, by decide +kernel, f1, by rw [f2]; decide +kernel, fun j v hv => ?_⟩))
      have hj : j < 11 := by
        rw [← f2]
        exact (List.getElem?_eq_some_iff.mp hv).1
      by_cases ej : j = 1
      · subst ej
        have g := f3 1 v hv
        rw [wl_c7] at g
        have g := (en_v_opq (by decide) (by decide)).mp g
        have g : v = .int x := g
        subst g
        rw [show en_elt (en_get wl_H0 0) 1 = 83010348333840467920 from by decide +kernel]
        have hz := en_z_int x
        exact (en_v_rng (by decide) (by decide)).mpr ⟨_, rfl, by omega, by omega⟩
      · rw [wl_c3 j hj ej]
        exact f3 j v hv
    · rw [wl_c5 k hk e]
      rw [wl_c5 k hk e] at hkd
      exact (hh ρ k).1 hk hkd
  refine wl_c_read hS h8 hL0 hd (fun h' r hL1 => kk h' r ?_)
  obtain ⟨hl, hJ, hx, hy, hh⟩ := hL1
  refine ⟨hl, hJ, ⟨by decide, by decide⟩, hy, fun ρ k => ⟨fun hk hkd => ?_, fun _ => rfl⟩⟩
  by_cases e : k = 0
  · subst e
    obtain ⟨fs, f1, f2, f3⟩ := br_o0 (H := wl_H00) (by decide +kernel) (hh ρ)
    rw [show en_len (en_get wl_H00 0) = 11 from by decide +kernel] at f2
    refine Or.inr (Or.inr (Or.inr ⟨8, fs, by decide +kernel, f1, by rw [f2]; decide +kernel, fun j v hv => ?_⟩))
    have hj : j < 11 := by
      rw [← f2]
      exact (List.getElem?_eq_some_iff.mp hv).1
    by_cases ej : j = 1
    · subst ej
      have g := f3 1 v hv
      rw [show en_elt (en_get wl_H00 0) 1 = 2147483648 from by decide +kernel] at g
      have g := (en_v_const (by decide)).mp g
      rw [wl_c7]
      refine (en_v_opq (by decide) (by decide)).mpr ?_
      rw [g]
      rfl
    · have g := f3 j v hv
      rw [wl_c4 j hj ej] at g
      rcases wl_c8 j hj ej with q | q
      · exact wl_om (ω := wl_o x y) (Or.inl q) g
      · exact wl_om (ω := wl_o x y) (Or.inr (Or.inl q)) g
  · have hk2 : en_kind (en_get wl_H00 k) ≠ 0 := by
      rw [wl_c6 k hk e]
      exact hkd
    have g := (hh ρ k).1 hk hk2
    rw [wl_c6 k hk e] at g
    exact wl_cr0 wl_nd0 hk e g
theorem wl_row1 : en_get wl_H 1 = en_rep 2 2000 73786976299133173759 := by decide +kernel
/-- the class's tape, by hand -/
theorem wl_inc (hL : wl_W E wl_H x y h) : ∃ (s : Nat → Int32) (A : Nat → Nat → Int32), bc_P bc_T E h h s A (fun _ _ => 0) ∧ s 1 = x := by
  obtain ⟨hl, -, -, -, hh⟩ := hL
  have hh := hh (fun _ => 0)
  obtain ⟨fs, f1, f2, f3⟩ := br_o0 wl_c1 hh
  rw [wl_c2] at f2
  obtain ⟨f, g1, -⟩ := br_a (k := 1) (t := 1) (n := 2000) (by decide) (by decide +kernel) (by decide) (by decide +kernel) hh
  have e1 : fs[1]? = some (.int x) := by
    have h1 : fs[1]? = some fs[1] := List.getElem?_eq_getElem (by rw [f2]; decide)
    have h2 := f3 1 _ h1
    rw [wl_c7] at h2
    have h3 := (en_v_opq (by decide) (by decide)).mp h2
    rw [h1, h3]
    rfl
  obtain ⟨e2, -, -⟩ := br_int (j := 2) (lo := 0) (hi := 4294967295) (by rw [f2]; decide) f3 (by decide +kernel) (by decide +kernel)
  have s1 : br_s fs 1 = x := by
    unfold br_s
    rw [e1]
  refine ⟨br_s fs, br_A h, ⟨bc_TW, hl, ⟨fs, fs, f1, f1, rfl, fun _ _ => rfl, fun p hp => ?_, fun k hk => ?_⟩, fun q hq => ?_, fun q hq => (by cases hq), fun _ _ _ _ => rfl⟩, s1⟩
  · rcases List.mem_cons.mp hp with rfl | hp
    · exact br_ref (by rw [f2]; decide) f3 (by decide +kernel) (by decide)
    · cases hp
  · rcases List.mem_cons.mp hk with rfl | hk
    · rw [e1, s1]
    · rcases List.mem_cons.mp hk with rfl | hk
      · exact e2
      · cases hk
  · rcases List.mem_cons.mp hq with rfl | hq
    · rw [br_A_eq g1]
      exact g1
    · cases hq
theorem wl_outc {x' : Int32} {h' : mm_H} {s' : Nat → Int32} {A' : Nat → Nat → Int32} {L' : Nat → Nat → Int64} (hL : wl_W E wl_H x y h) (hP : bc_P bc_T E h h' s' A' L') (hx2 : s' 1 = x') (hx0 : 0 ≤ x'.toInt ∧ x'.toInt ≤ 2000) : wl_W E wl_H x' y h' := by
  obtain ⟨hl, hJ, hx, hy, hh⟩ := hL
  obtain ⟨-, hl', ⟨fs0, fs, a1, a2, a3, a4, a5, a6⟩, hA, -, hF⟩ := hP
  have hk0 : ∀ k, k ≠ 0 → k ≠ 1 → h'[k]? = h[k]? := by
    intro k k0 k1
    refine hF k k0 (fun q hq => ?_) (fun q hq => (by cases hq))
    rcases List.mem_cons.mp hq with rfl | hq
    · exact fun e => k1 e.symm
    · cases hq
  refine ⟨hl', rd_JX h h' (fun k hk => (hk0 k (by revert k; decide) (by revert k; decide)).symm) hJ, hx0, hy, fun ρ k => ⟨fun hk hkd => ?_, fun _ => rfl⟩⟩
  by_cases e : k = 0
  · subst e
    obtain ⟨fsr, b1, b2, b3⟩ := br_o0 wl_c1 (hh ρ)
    have e9 : fsr = fs0 := by
      have h9 := b1.symm.trans a1
      cases h9
      rfl
    subst e9
    rw [wl_c2] at b2
    refine Or.inr (Or.inr (Or.inr ⟨8, fs, wl_c1, a2, by rw [a3, b2, wl_c2], fun j v hv => ?_⟩))
    by_cases hj : j ∈ bc_T.2.1
    · have g1 := a6 j hj
      rw [hv] at g1
      cases g1
      rcases List.mem_cons.mp hj with rfl | hj
      · rw [wl_c7]
        refine (en_v_opq (by decide) (by decide)).mpr ?_
        rw [hx2]
        rfl
      · rcases List.mem_cons.mp hj with rfl | hj
        · rw [show en_elt (en_get wl_H 0) 2 = 73786976299133173759 from by decide +kernel]
          exact en_any_v _
        · cases hj
    · rw [a4 j hj] at hv
      have hj11 : j < 11 := by
        rw [← b2]
        exact (List.getElem?_eq_some_iff.mp hv).1
      rcases wl_c8 j hj11 (fun e => hj (by rw [e]; decide)) with q | q
      · exact wl_om (ω := wl_o x y) (Or.inl q) (b3 j v hv)
      · exact wl_om (ω := wl_o x y) (Or.inr (Or.inl q)) (b3 j v hv)
  · by_cases e1 : k = 1
    · subst e1
      have g1 := hA (1, 1, 2000) (by decide)
      exact Or.inl ⟨1, A' 1, by decide +kernel, by decide, by rw [show en_len (en_get wl_H 1) = 2000 from by decide +kernel]; exact g1, fun j hj => by
        rw [wl_row1, en_rep_len (by decide) (by decide)] at hj
        rw [wl_row1, en_rep_elt (by decide) (by decide) (by decide) hj]
        exact en_any_v _⟩
    · rw [hk0 k e e1]
      exact wl_cr0 wl_nd0 hk e ((hh ρ k).1 hk hkd)
/-- feed and back, of both -/
theorem wl_fd {v r z : Int32} (h : (z.toInt + 20 ≤ 2000 ∧ v.toInt = z.toInt + 20 ∧ r.toInt = z.toInt + 20) ∨ (2000 < z.toInt + 20 ∧ v.toInt = z.toInt ∧ r.toInt = -1)) (h0 : 0 ≤ z.toInt ∧ z.toInt ≤ 2000) : 0 ≤ v.toInt ∧ v.toInt ≤ 2000 := by omega
theorem wl_c_feed {a b c d e : Int32} (hL : wl_W E wl_H x y h) (hd : gs.length ≤ 900) (kk : ∀ (h' : mm_H) (r v : Int32), wl_W E wl_H v y h' → ((x.toInt + 20 ≤ 2000 ∧ v.toInt = x.toInt + 20 ∧ r.toInt = x.toInt + 20) ∨ (2000 < x.toInt + 20 ∧ v.toInt = x.toInt ∧ r.toInt = -1)) → bh_G E FIN (mm_back (some (.int r)) gs h')) : bh_G E FIN ((230, 0, [(0, .ref (E.1 + 0)), (1, .int a), (2, .int b), (3, .int c), (4, .int d), (5, .int e)], [], 0, 0) :: gs, h, none) := by
  obtain ⟨s, A, hP, e1⟩ := wl_inc hL
  have hx := hL.2.2.1
  refine sp_230 hP (by omega) (by rw [e1]; omega) (by rw [e1]; omega) (fun h' s' A' r hP' f a' z => ?_)
  rw [e1] at z
  exact kk h' r (s' 1) (wl_outc hL hP' rfl (wl_fd z hx)) z
theorem wl_c_back {n : Int32} (hL : wl_W E wl_H x y h) (kk : ∀ (h' : mm_H) (r v : Int32), wl_W E wl_H v y h' → ((0 ≤ n.toInt ∧ n.toInt ≤ x.toInt ∧ v.toInt = x.toInt - n.toInt ∧ r.toInt = x.toInt - n.toInt) ∨ ((n.toInt < 0 ∨ x.toInt < n.toInt) ∧ v.toInt = x.toInt ∧ r.toInt = -1)) → bh_G E FIN (mm_back (some (.int r)) gs h')) : bh_G E FIN ((221, 0, [(0, .ref (E.1 + 0)), (1, .int n)], [], 0, 0) :: gs, h, none) := by
  obtain ⟨s, A, hP, e1⟩ := wl_inc hL
  have hx := hL.2.2.1
  refine sp_221 hP (by rw [e1]; omega) (by rw [e1]; omega) (fun h' s' A' r hP' f a' z => ?_)
  rw [e1] at z
  exact kk h' r (s' 1) (wl_outc hL hP' rfl ⟨by omega, by omega⟩) z
theorem wl_outm {y' : Int32} {h' : mm_H} {s s' : Nat → Int32} {A A' : Nat → Nat → Int32} {L' : Nat → Nat → Int64} (hL : wl_W E wl_H x y h) (hP' : bh_P bx_T E h h' s' A' L') (f : ∀ j, j ≠ 2 → s' j = s j) (a' : ∀ k j, k ≠ 89 → A' k j = A k j) (hy2 : s' 2 = y') (hy0 : 0 ≤ y'.toInt ∧ y'.toInt ≤ 2000) (h18 : 0 ≤ (s 18).toInt ∧ (s 18).toInt ≤ 1) (hJ : rd_J A) (m0 : 0 ≤ (A 97 0).toInt ∧ (A 97 0).toInt ≤ 6) (m1 : 0 ≤ (A 97 1).toInt ∧ (A 97 1).toInt ≤ 6) (q91 : ∀ j, j < 403 → 0 ≤ (A 91 j).toInt ∧ (A 91 j).toInt ≤ 43) (hr : 0 ≤ (s 4).toInt ∧ (s 4).toInt ≤ 2000 ∧ 0 ≤ (s 10).toInt ∧ (s 10).toInt ≤ 401 ∧ 0 ≤ (s 11).toInt ∧ (s 11).toInt ≤ 400 ∧ 0 ≤ (s 12).toInt ∧ (s 12).toInt ≤ 7 ∧ 0 ≤ (s 19).toInt ∧ (s 19).toInt ≤ 1 ∧ 0 ≤ (s 20).toInt ∧ (s 20).toInt ≤ 6) : wl_W E wl_H x y' h' := by
  have hJ2 : rd_J A' := by
    have key : ∀ σ bh hi, rd_S A σ bh hi → rd_S A' σ bh hi := fun σ bh hi hS => rd_S_congr (Nat.le_refl _) (Nat.le_refl _) (fun j _ _ => ⟨a' 113 j (by decide), a' 114 j (by decide)⟩) (fun b _ _ k k1 k2 => a' k b (by omega)) (fun k _ _ => ⟨a' 106 k (by decide), a' 107 k (by decide)⟩) hS
    exact ⟨key _ _ _ hJ.1, key _ _ _ hJ.2⟩
  exact wl_out hL hP' hy2 hy0 (by rw [f 4 (by decide)]; omega) (by rw [f 10 (by decide)]; omega) (by rw [f 11 (by decide)]; omega) (by rw [f 12 (by decide)]; omega) (by rw [f 18 (by decide)]; omega) (by rw [f 19 (by decide)]; omega) (by rw [f 20 (by decide)]; omega) hJ2 (by rw [a' 97 0 (by decide)]; exact m0) (by rw [a' 97 1 (by decide)]; exact m1) (fun j hj => by rw [a' 91 j (by decide)]; exact q91 j hj)
theorem wl_m_feed {a b c d e : Int32} (hL : wl_W E wl_H x y h) (hd : gs.length ≤ 900) (kk : ∀ (h' : mm_H) (r v : Int32), wl_W E wl_H x v h' → ((y.toInt + 20 ≤ 2000 ∧ v.toInt = y.toInt + 20 ∧ r.toInt = y.toInt + 20) ∨ (2000 < y.toInt + 20 ∧ v.toInt = y.toInt ∧ r.toInt = -1)) → bh_G E FIN (mm_back (some (.int r)) gs h')) : bh_G E FIN ((28, 0, [(0, .ref (E.1 + 88)), (1, .int a), (2, .int b), (3, .int c), (4, .int d), (5, .int e)], [], 0, 0) :: gs, h, none) := by
  obtain ⟨s, A, L, hP, e2, h18, hJ, m0, m1, q91, hr⟩ := wl_in hL
  have hy := hL.2.2.2.1
  refine sp_28 hP (by omega) (by rw [e2]; omega) (by rw [e2]; omega) (fun h' s' A' r hP' f a' z => ?_)
  rw [e2] at z
  exact kk h' r (s' 2) (wl_outm hL hP' f a' rfl (wl_fd z hy) h18 hJ m0 m1 q91 hr) z
theorem wl_m_back {n : Int32} (hL : wl_W E wl_H x y h) (kk : ∀ (h' : mm_H) (r v : Int32), wl_W E wl_H x v h' → ((0 ≤ n.toInt ∧ n.toInt ≤ y.toInt ∧ v.toInt = y.toInt - n.toInt ∧ r.toInt = y.toInt - n.toInt) ∨ ((n.toInt < 0 ∨ y.toInt < n.toInt) ∧ v.toInt = y.toInt ∧ r.toInt = -1)) → bh_G E FIN (mm_back (some (.int r)) gs h')) : bh_G E FIN ((5, 0, [(0, .ref (E.1 + 88)), (1, .int n)], [], 0, 0) :: gs, h, none) := by
  obtain ⟨s, A, L, hP, e2, h18, hJ, m0, m1, q91, hr⟩ := wl_in hL
  have hy := hL.2.2.2.1
  refine sp_5 hP (by rw [e2]; omega) (by rw [e2]; omega) (fun h' s' A' r hP' f a' z => ?_)
  rw [e2] at z
  exact kk h' r (s' 2) (wl_outm hL hP' f a' rfl ⟨by omega, by omega⟩ h18 hJ m0 m1 q91 hr) z
end WLM
