/-! ===== the law's calls: their outcomes (0 or which exception, the answer, the state) ===== -/
/-- the reference's answer -/
def nxM (h : Hp) (m : Nat) (A : Nat → Nat) (Q : Option Value → Hp → Prop) (kk vv : Int) (T : SS) : Prop := ∀ h', Fr h h' (WM m A) → fi h' 6 0 m = i32 kk → MD h' m A T → MC h' A T → ∀ w, (kk = 0 → w = i32 vv) → Q (some (.int w)) h'
section NXM
variable {h : Hp} {m : Nat} {A : Nat → Nat} {S T : SS} {Q : Option Value → Hp → Prop} {kk vv : Int}
theorem nxM.w {g : Hp} (hq : nxM h m A Q 0 vv T) (f : Fr (t0 h m) g (WM m A)) (e : fi g 6 0 m = fi (t0 h m) 6 0 m) (hM : MD g m A T) (hC : MC g A T) : Q (some (.int (i32 vv))) g :=
  hq g ((Fr.sI WM.m).tr f) (by rw [e]; unfold t0; rw [fi_setI, if_pos ⟨rfl, rfl, rfl⟩]; rfl) hM hC _ (fun _ => rfl)
theorem nxM.z (hq : nxM h m A Q 0 vv S) (hM : MD h m A S) (hC : MC h A S) : Q (some (.int (i32 vv))) (t0 h m) := hq.w Fr.rf rfl (MD_s0 hM) (MC_s0 hC)
theorem nxM.n (hq : nxM h m A Q 0 vv T) : nxt (t0 h m) m A T Q vv := fun h' f e hM hC => hq h' ((Fr.sI WM.m).tr f) e hM hC _ (fun _ => rfl)
theorem nxM.x (hq : nxM h m A Q kk vv S) (hM : MD h m A S) (hC : MC h A S) (hk : kk ≠ 0) : Q (some (.int (i32 0))) (tX h m kk) :=
  hq _ ((Fr.sI WM.m).tr (Fr.sI WM.m)) (by rw [fi_setI, if_pos ⟨rfl, rfl, rfl⟩]) (MD_s0 (MD_s0 hM)) (MC_s0 (MC_s0 hC)) _ (fun z => absurd z hk)
end NXM
theorem lf1 {S : SS} (hW : WF S) {l : Int32} : ((0 ≤ l.toInt ∧ l.toInt < S.nl) ∧ S.lf (tn l) 6 ≠ 0) = ((0 ≤ l.toInt ∧ l.toInt < S.nl) ∧ S.lf (tn l) 6 = 1) := by
  apply propext
  constructor
  · rintro ⟨h1, h2⟩
    have := hW.2.2.2.1 (tn l) (by unfold tn; omega)
    exact ⟨h1, by omega⟩
  · rintro ⟨h1, h2⟩
    exact ⟨h1, by omega⟩
/-! warnings -/
theorem WW_uL6 {S : SS} {l : Nat} (hw : WW S) : WW (S.uL l 6 0) := by
  intro i hi h6
  have := hw i hi
  rw [lf_uL] at h6
  rw [lf_uL, if_neg (by omega)]
  by_cases z : i = l ∧ 6 = 6
  · rw [if_pos z] at h6; exact absurd rfl h6
  · rw [if_neg z] at h6; exact this h6
theorem WW_uL5 {S : SS} {l : Nat} {v : Int} (hw : WW S) : WW (S.uL l 5 v) := by
  intro i hi h6
  rw [lf_uL, if_neg (by omega)] at h6
  rw [lf_uL, if_neg (by omega)]
  exact hw i hi h6
theorem WW_aL {S : SS} {b t f l c p : Int} (hw : WW S) : WW (S.aL (lS b t f l c p)) := by
  intro i hi h6
  have hi' : i < S.nl + 1 := hi
  rw [lf_aL] at h6 ⊢
  by_cases z : i = S.nl
  · rw [if_pos z]; show (0 : Int) ≤ 1; omega
  · rw [if_neg z] at h6 ⊢; exact hw i (by omega) h6
theorem WW_eL {S : SS} {b n : Nat} {c : Nat} {v : Int} (hw : WW S) : WW ((S.eL b n).uB c 6 v) := by
  intro i hi h6
  have e : ∀ k, ((S.eL b n).uB c 6 v).lf i k = (S.eL b n).lf i k := fun k => rfl
  rw [e, lf_eL] at h6
  rw [e, lf_eL, if_neg (by omega)]
  by_cases z : (i < n ∧ 6 = 6) ∧ S.lf i 0 = b
  · rw [if_pos z] at h6; exact absurd rfl h6
  · rw [if_neg z] at h6; exact hw i hi h6
/-! build -/
def OC_build (S : SS) (x y w d t o : Int32) (kk vv : Int) (T : SS) : Prop := ((vbC x.toInt y.toInt w.toInt d.toInt t.toInt o.toInt ∧ frB S x.toInt y.toInt (tn w) (tn w * tn d) = true) ∧ kk = 0 ∧ vv = S.nb ∧ T = S.aB (bS x.toInt y.toInt w.toInt d.toInt t.toInt o.toInt)) ∨ ((¬ vbC x.toInt y.toInt w.toInt d.toInt t.toInt o.toInt) ∧ kk = 1 ∧ T = S) ∨ ((vbC x.toInt y.toInt w.toInt d.toInt t.toInt o.toInt ∧ ¬ frB S x.toInt y.toInt (tn w) (tn w * tn d) = true) ∧ kk = 2 ∧ T = S)
theorem wf_build {S T : SS} {x y w d t o : Int32} {kk vv : Int} (hW : WF S) (hw : WW S) (hO : OC_build S x y w d t o kk vv T) : (0 ≤ kk ∧ kk ≤ 3) ∧ WF T ∧ WW T := by
  rcases hO with ⟨hv, rfl, rfl, rfl⟩ | ⟨he, rfl, rfl⟩ | ⟨he, rfl, rfl⟩
  · refine ⟨by omega, ?_⟩
    obtain ⟨wn, hwn⟩ := Int.eq_ofNat_of_zero_le (show 0 ≤ w.toInt by have := hv.1.1; omega)
    obtain ⟨dn, hdn⟩ := Int.eq_ofNat_of_zero_le (show 0 ≤ d.toInt by have := hv.1.2.1; omega)
    have e1 : tn w = wn := by unfold tn; rw [hwn, Int.toNat_natCast]
    have e2 : tn d = dn := by unfold tn; rw [hdn, Int.toNat_natCast]
    rw [e1, e2, hwn, hdn] at hv
    rw [hwn, hdn]
    exact ⟨WF_aB hW hv.1 hv.2, hw⟩
  · exact ⟨by omega, hW, hw⟩
  · exact ⟨by omega, hW, hw⟩
theorem m_build {h : Hp} {m : Nat} {A : Nat → Nat} {S T : SS} {x y w d t o : Int32} {kk vv : Int} {Q : Option Value → Hp → Prop} {QX : String → Hp → Prop} (hW : WF S) (hw : WW S) (hM : MD h m A S) (hC : MC h A S) (hO : OC_build S x y w d t o kk vv T) (hq : nxM h m A Q kk vv T) : ct_X5_build A S [.ref m, .int x, .int y, .int w, .int d, .int t, .int o] h Q QX := by
  unfold ct_X5_build
  simp only [sR_c, sI_c, s0_n]
  refine ⟨hM, hC, fun hz => ?_, fun hz => ?_, fun hz => ?_⟩
  · rcases hO with ⟨hv, rfl, rfl, rfl⟩ | ⟨he, rfl, rfl⟩ | ⟨he, rfl, rfl⟩
    · exact hq.n
    · exfalso; first | exact hz he | exact he hz | exact hz he.1 | exact he hz.1 | exact hz.2 he.2 | exact he.2 hz.2 | exact hz he.1.1 | exact he hz.1.1 | exact hz.2 he.1.2 | exact he.2 hz.1.2
    · exfalso; first | exact hz he | exact he hz | exact hz he.1 | exact he hz.1 | exact hz.2 he.2 | exact he.2 hz.2 | exact hz he.1.1 | exact he hz.1.1 | exact hz.2 he.1.2 | exact he.2 hz.1.2
  · rcases hO with ⟨hv, rfl, rfl, rfl⟩ | ⟨he, rfl, rfl⟩ | ⟨he, rfl, rfl⟩
    · exfalso; first | exact hz hv | exact hv hz | exact hz hv.1 | exact hv hz.1 | exact hz.2 hv.2 | exact hv.2 hz.2 | exact hz hv.1.1 | exact hv hz.1.1 | exact hz.2 hv.1.2 | exact hv.2 hz.1.2
    · exact hq.x hM hC (by omega)
    · exfalso; first | exact hz he | exact he hz | exact hz he.1 | exact he hz.1 | exact hz.2 he.2 | exact he.2 hz.2 | exact hz he.1.1 | exact he hz.1.1 | exact hz.2 he.1.2 | exact he.2 hz.1.2
  · rcases hO with ⟨hv, rfl, rfl, rfl⟩ | ⟨he, rfl, rfl⟩ | ⟨he, rfl, rfl⟩
    · exfalso; first | exact hz hv | exact hv hz | exact hz hv.1 | exact hv hz.1 | exact hz.2 hv.2 | exact hv.2 hz.2 | exact hz hv.1.1 | exact hv hz.1.1 | exact hz.2 hv.1.2 | exact hv.2 hz.1.2
    · exfalso; first | exact hz he | exact he hz | exact hz he.1 | exact he hz.1 | exact hz.2 he.2 | exact he.2 hz.2 | exact hz he.1.1 | exact he hz.1.1 | exact hz.2 he.1.2 | exact he.2 hz.1.2
    · exact hq.x hM hC (by omega)
/-! tearDown -/
def OC_tearDown (S : SS) (b : Int32) (kk vv : Int) (T : SS) : Prop := ((((0 ≤ b.toInt ∧ b.toInt < S.nb) ∧ S.bf (tn b) 6 = 1)) ∧ kk = 0 ∧ vv = lsOf S (tn b) ∧ T = (S.eL (tn b) S.nl).uB (tn b) 6 0) ∨ ((¬ ((0 ≤ b.toInt ∧ b.toInt < S.nb) ∧ S.bf (tn b) 6 = 1)) ∧ kk = 1 ∧ T = S)
theorem wf_tearDown {S T : SS} {b : Int32} {kk vv : Int} (hW : WF S) (hw : WW S) (hO : OC_tearDown S b kk vv T) : (0 ≤ kk ∧ kk ≤ 3) ∧ WF T ∧ WW T := by
  rcases hO with ⟨hv, rfl, rfl, rfl⟩ | ⟨he, rfl, rfl⟩
  · refine ⟨by omega, ?_⟩
    exact ⟨WF_uB6 (WF_eL hW), WW_eL hw⟩
  · exact ⟨by omega, hW, hw⟩
theorem m_tearDown {h : Hp} {m : Nat} {A : Nat → Nat} {S T : SS} {b : Int32} {kk vv : Int} {Q : Option Value → Hp → Prop} {QX : String → Hp → Prop} (hW : WF S) (hw : WW S) (hM : MD h m A S) (hC : MC h A S) (hO : OC_tearDown S b kk vv T) (hq : nxM h m A Q kk vv T) : ct_X5_tearDown A S [.ref m, .int b] h Q QX := by
  unfold ct_X5_tearDown
  simp only [sR_c, sI_c, s0_n]
  refine ⟨hM, hC, fun hz => ?_, fun hz => ?_⟩
  · rcases hO with ⟨hv, rfl, rfl, rfl⟩ | ⟨he, rfl, rfl⟩
    · exact hq.n
    · exfalso; first | exact hz he | exact he hz | exact hz he.1 | exact he hz.1 | exact hz.2 he.2 | exact he.2 hz.2 | exact hz he.1.1 | exact he hz.1.1 | exact hz.2 he.1.2 | exact he.2 hz.1.2
  · rcases hO with ⟨hv, rfl, rfl, rfl⟩ | ⟨he, rfl, rfl⟩
    · exfalso; first | exact hz hv | exact hv hz | exact hz hv.1 | exact hv hz.1 | exact hz.2 hv.2 | exact hv.2 hz.2 | exact hz hv.1.1 | exact hv hz.1.1 | exact hz.2 hv.1.2 | exact hv.2 hz.1.2
    · exact hq.x hM hC (by omega)
/-! raise -/
def OC_raise (S : SS) (b v : Int32) (kk vv : Int) (T : SS) : Prop := ((((0 ≤ b.toInt ∧ b.toInt < S.nb) ∧ S.bf (tn b) 6 = 1) ∧ (1 ≤ v.toInt ∧ v.toInt ≤ 9)) ∧ kk = 0 ∧ vv = S.bf (tn b) 4 ∧ T = S.uB (tn b) 4 v.toInt) ∨ ((¬ ((0 ≤ b.toInt ∧ b.toInt < S.nb) ∧ S.bf (tn b) 6 = 1)) ∧ kk = 1 ∧ T = S) ∨ ((((0 ≤ b.toInt ∧ b.toInt < S.nb) ∧ S.bf (tn b) 6 = 1) ∧ ¬ (1 ≤ v.toInt ∧ v.toInt ≤ 9)) ∧ kk = 2 ∧ T = S)
theorem wf_raise {S T : SS} {b v : Int32} {kk vv : Int} (hW : WF S) (hw : WW S) (hO : OC_raise S b v kk vv T) : (0 ≤ kk ∧ kk ≤ 3) ∧ WF T ∧ WW T := by
  rcases hO with ⟨hv, rfl, rfl, rfl⟩ | ⟨he, rfl, rfl⟩ | ⟨he, rfl, rfl⟩
  · refine ⟨by omega, ?_⟩
    exact ⟨WF_uB4 hW hv.2, hw⟩
  · exact ⟨by omega, hW, hw⟩
  · exact ⟨by omega, hW, hw⟩
theorem m_raise {h : Hp} {m : Nat} {A : Nat → Nat} {S T : SS} {b v : Int32} {kk vv : Int} {Q : Option Value → Hp → Prop} {QX : String → Hp → Prop} (hW : WF S) (hw : WW S) (hM : MD h m A S) (hC : MC h A S) (hO : OC_raise S b v kk vv T) (hq : nxM h m A Q kk vv T) : ct_X5_raise A S [.ref m, .int b, .int v] h Q QX := by
  unfold ct_X5_raise
  simp only [sR_c, sI_c, s0_n]
  refine ⟨hM, hC, fun hz => ?_, fun hz => ?_, fun hz => ?_⟩
  · rcases hO with ⟨hv, rfl, rfl, rfl⟩ | ⟨he, rfl, rfl⟩ | ⟨he, rfl, rfl⟩
    · obtain ⟨vV, hvV, rfl⟩ := i32_all v
      rw [i32_toInt hvV] at hq ⊢
      intro h' g1 g2
      exact hq.w ((Fr.sA (WM.r (by omega))).tr g1.fr) (g1.2.1 _ _ _) (g1.md (MD_uB (MD_s0 hM) (by omega))) g2
    · exfalso; first | exact hz he | exact he hz | exact hz he.1 | exact he hz.1 | exact hz.2 he.2 | exact he.2 hz.2 | exact hz he.1.1 | exact he hz.1.1 | exact hz.2 he.1.2 | exact he.2 hz.1.2
    · exfalso; first | exact hz he | exact he hz | exact hz he.1 | exact he hz.1 | exact hz.2 he.2 | exact he.2 hz.2 | exact hz he.1.1 | exact he hz.1.1 | exact hz.2 he.1.2 | exact he.2 hz.1.2
  · rcases hO with ⟨hv, rfl, rfl, rfl⟩ | ⟨he, rfl, rfl⟩ | ⟨he, rfl, rfl⟩
    · exfalso; first | exact hz hv | exact hv hz | exact hz hv.1 | exact hv hz.1 | exact hz.2 hv.2 | exact hv.2 hz.2 | exact hz hv.1.1 | exact hv hz.1.1 | exact hz.2 hv.1.2 | exact hv.2 hz.1.2
    · exact hq.x hM hC (by omega)
    · exfalso; first | exact hz he | exact he hz | exact hz he.1 | exact he hz.1 | exact hz.2 he.2 | exact he.2 hz.2 | exact hz he.1.1 | exact he hz.1.1 | exact hz.2 he.1.2 | exact he.2 hz.1.2
  · rcases hO with ⟨hv, rfl, rfl, rfl⟩ | ⟨he, rfl, rfl⟩ | ⟨he, rfl, rfl⟩
    · exfalso; first | exact hz hv | exact hv hz | exact hz hv.1 | exact hv hz.1 | exact hz.2 hv.2 | exact hv.2 hz.2 | exact hz hv.1.1 | exact hv hz.1.1 | exact hz.2 hv.1.2 | exact hv.2 hz.1.2
    · exfalso; first | exact hz he | exact he hz | exact hz he.1 | exact he hz.1 | exact hz.2 he.2 | exact he.2 hz.2 | exact hz he.1.1 | exact he hz.1.1 | exact hz.2 he.1.2 | exact he.2 hz.1.2
    · exact hq.x hM hC (by omega)
/-! setSun -/
def OC_setSun (S : SS) (hr x y l : Int32) (kk vv : Int) (T : SS) : Prop := (((0 ≤ hr.toInt ∧ hr.toInt ≤ 11) ∧ vsC x.toInt y.toInt l.toInt) ∧ kk = 0 ∧ vv = S.sn (tn hr) 2 ∧ T = S.uS (tn hr) (sS x.toInt y.toInt l.toInt)) ∨ ((¬ (0 ≤ hr.toInt ∧ hr.toInt ≤ 11)) ∧ kk = 1 ∧ T = S) ∨ (((0 ≤ hr.toInt ∧ hr.toInt ≤ 11) ∧ ¬ vsC x.toInt y.toInt l.toInt) ∧ kk = 2 ∧ T = S)
theorem wf_setSun {S T : SS} {hr x y l : Int32} {kk vv : Int} (hW : WF S) (hw : WW S) (hO : OC_setSun S hr x y l kk vv T) : (0 ≤ kk ∧ kk ≤ 3) ∧ WF T ∧ WW T := by
  rcases hO with ⟨hv, rfl, rfl, rfl⟩ | ⟨he, rfl, rfl⟩ | ⟨he, rfl, rfl⟩
  · refine ⟨by omega, ?_⟩
    exact ⟨WF_uS hW hv.2, hw⟩
  · exact ⟨by omega, hW, hw⟩
  · exact ⟨by omega, hW, hw⟩
theorem m_setSun {h : Hp} {m : Nat} {A : Nat → Nat} {S T : SS} {hr x y l : Int32} {kk vv : Int} {Q : Option Value → Hp → Prop} {QX : String → Hp → Prop} (hW : WF S) (hw : WW S) (hM : MD h m A S) (hC : MC h A S) (hO : OC_setSun S hr x y l kk vv T) (hq : nxM h m A Q kk vv T) : ct_X5_setSun A S [.ref m, .int hr, .int x, .int y, .int l] h Q QX := by
  unfold ct_X5_setSun
  simp only [sR_c, sI_c, s0_n]
  refine ⟨hM, hC, fun hz => ?_, fun hz => ?_, fun hz => ?_⟩
  · rcases hO with ⟨hv, rfl, rfl, rfl⟩ | ⟨he, rfl, rfl⟩ | ⟨he, rfl, rfl⟩
    · exact hq.n
    · exfalso; first | exact hz he | exact he hz | exact hz he.1 | exact he hz.1 | exact hz.2 he.2 | exact he.2 hz.2 | exact hz he.1.1 | exact he hz.1.1 | exact hz.2 he.1.2 | exact he.2 hz.1.2
    · exfalso; first | exact hz he | exact he hz | exact hz he.1 | exact he hz.1 | exact hz.2 he.2 | exact he.2 hz.2 | exact hz he.1.1 | exact he hz.1.1 | exact hz.2 he.1.2 | exact he.2 hz.1.2
  · rcases hO with ⟨hv, rfl, rfl, rfl⟩ | ⟨he, rfl, rfl⟩ | ⟨he, rfl, rfl⟩
    · exfalso; first | exact hz hv | exact hv hz | exact hz hv.1 | exact hv hz.1 | exact hz.2 hv.2 | exact hv.2 hz.2 | exact hz hv.1.1 | exact hv hz.1.1 | exact hz.2 hv.1.2 | exact hv.2 hz.1.2
    · exact hq.x hM hC (by omega)
    · exfalso; first | exact hz he | exact he hz | exact hz he.1 | exact he hz.1 | exact hz.2 he.2 | exact he.2 hz.2 | exact hz he.1.1 | exact he hz.1.1 | exact hz.2 he.1.2 | exact he.2 hz.1.2
  · rcases hO with ⟨hv, rfl, rfl, rfl⟩ | ⟨he, rfl, rfl⟩ | ⟨he, rfl, rfl⟩
    · exfalso; first | exact hz hv | exact hv hz | exact hz hv.1 | exact hv hz.1 | exact hz.2 hv.2 | exact hv.2 hz.2 | exact hz hv.1.1 | exact hv hz.1.1 | exact hz.2 hv.1.2 | exact hv.2 hz.1.2
    · exfalso; first | exact hz he | exact he hz | exact hz he.1 | exact he hz.1 | exact hz.2 he.2 | exact he.2 hz.2 | exact hz he.1.1 | exact he hz.1.1 | exact hz.2 he.1.2 | exact he.2 hz.1.2
    · exact hq.x hM hC (by omega)
/-! building -/
def OC_building (S : SS) (b w : Int32) (kk vv : Int) (T : SS) : Prop := (((0 ≤ b.toInt ∧ b.toInt < S.nb) ∧ (0 ≤ w.toInt ∧ w.toInt ≤ 7)) ∧ kk = 0 ∧ vv = buT S (tn b) (tn w) ∧ T = S) ∨ ((¬ ((0 ≤ b.toInt ∧ b.toInt < S.nb) ∧ (0 ≤ w.toInt ∧ w.toInt ≤ 7))) ∧ kk = 1 ∧ T = S)
theorem wf_building {S T : SS} {b w : Int32} {kk vv : Int} (hW : WF S) (hw : WW S) (hO : OC_building S b w kk vv T) : (0 ≤ kk ∧ kk ≤ 3) ∧ WF T ∧ WW T := by
  rcases hO with ⟨hv, rfl, rfl, rfl⟩ | ⟨he, rfl, rfl⟩
  · refine ⟨by omega, ?_⟩
    exact ⟨hW, hw⟩
  · exact ⟨by omega, hW, hw⟩
theorem m_building {h : Hp} {m : Nat} {A : Nat → Nat} {S T : SS} {b w : Int32} {kk vv : Int} {Q : Option Value → Hp → Prop} {QX : String → Hp → Prop} (hW : WF S) (hw : WW S) (hM : MD h m A S) (hC : MC h A S) (hO : OC_building S b w kk vv T) (hq : nxM h m A Q kk vv T) : ct_X5_building A S [.ref m, .int b, .int w] h Q QX := by
  unfold ct_X5_building
  simp only [sR_c, sI_c, s0_n]
  refine ⟨hM, hC, fun hz => ?_, fun hz => ?_⟩
  · rcases hO with ⟨hv, rfl, rfl, rfl⟩ | ⟨he, rfl, rfl⟩
    · exact hq.z hM hC
    · exfalso; first | exact hz he | exact he hz | exact hz he.1 | exact he hz.1 | exact hz.2 he.2 | exact he.2 hz.2 | exact hz he.1.1 | exact he hz.1.1 | exact hz.2 he.1.2 | exact he.2 hz.1.2
  · rcases hO with ⟨hv, rfl, rfl, rfl⟩ | ⟨he, rfl, rfl⟩
    · exfalso; first | exact hz hv | exact hv hz | exact hz hv.1 | exact hv hz.1 | exact hz.2 hv.2 | exact hv.2 hz.2 | exact hz hv.1.1 | exact hv hz.1.1 | exact hz.2 hv.1.2 | exact hv.2 hz.1.2
    · exact hq.x hM hC (by omega)
/-! shade -/
def OC_shade (S : SS) (hr x y : Int32) (kk vv : Int) (T : SS) : Prop := (((0 ≤ hr.toInt ∧ hr.toInt ≤ 11) ∧ (0 ≤ x.toInt ∧ x.toInt ≤ 15) ∧ (0 ≤ y.toInt ∧ y.toInt ≤ 15)) ∧ kk = 0 ∧ vv = bel S (tn hr) (x.toInt + 16 * y.toInt).toNat ∧ T = S) ∨ ((¬ ((0 ≤ hr.toInt ∧ hr.toInt ≤ 11) ∧ (0 ≤ x.toInt ∧ x.toInt ≤ 15) ∧ (0 ≤ y.toInt ∧ y.toInt ≤ 15))) ∧ kk = 1 ∧ T = S)
theorem wf_shade {S T : SS} {hr x y : Int32} {kk vv : Int} (hW : WF S) (hw : WW S) (hO : OC_shade S hr x y kk vv T) : (0 ≤ kk ∧ kk ≤ 3) ∧ WF T ∧ WW T := by
  rcases hO with ⟨hv, rfl, rfl, rfl⟩ | ⟨he, rfl, rfl⟩
  · refine ⟨by omega, ?_⟩
    exact ⟨hW, hw⟩
  · exact ⟨by omega, hW, hw⟩
theorem m_shade {h : Hp} {m : Nat} {A : Nat → Nat} {S T : SS} {hr x y : Int32} {kk vv : Int} {Q : Option Value → Hp → Prop} {QX : String → Hp → Prop} (hW : WF S) (hw : WW S) (hM : MD h m A S) (hC : MC h A S) (hO : OC_shade S hr x y kk vv T) (hq : nxM h m A Q kk vv T) : ct_X5_shade A S [.ref m, .int hr, .int x, .int y] h Q QX := by
  unfold ct_X5_shade
  simp only [sR_c, sI_c, s0_n]
  refine ⟨hM, hC, fun hz => ?_, fun hz => ?_⟩
  · rcases hO with ⟨hv, rfl, rfl, rfl⟩ | ⟨he, rfl, rfl⟩
    · exact hq.z hM hC
    · exfalso; first | exact hz he | exact he hz | exact hz he.1 | exact he hz.1 | exact hz.2 he.2 | exact he.2 hz.2 | exact hz he.1.1 | exact he hz.1.1 | exact hz.2 he.1.2 | exact he.2 hz.1.2
  · rcases hO with ⟨hv, rfl, rfl, rfl⟩ | ⟨he, rfl, rfl⟩
    · exfalso; first | exact hz hv | exact hv hz | exact hz hv.1 | exact hv hz.1 | exact hz.2 hv.2 | exact hv.2 hz.2 | exact hz hv.1.1 | exact hv hz.1.1 | exact hz.2 hv.1.2 | exact hv.2 hz.1.2
    · exact hq.x hM hC (by omega)
/-! shades -/
def OC_shades (S : SS) (hr x y : Int32) (kk vv : Int) (T : SS) : Prop := (((0 ≤ hr.toInt ∧ hr.toInt ≤ 11) ∧ (0 ≤ x.toInt ∧ x.toInt ≤ 15) ∧ (0 ≤ y.toInt ∧ y.toInt ≤ 15)) ∧ kk = 0 ∧ vv = shd S (tn hr) (x.toInt + 16 * y.toInt).toNat ∧ T = S) ∨ ((¬ ((0 ≤ hr.toInt ∧ hr.toInt ≤ 11) ∧ (0 ≤ x.toInt ∧ x.toInt ≤ 15) ∧ (0 ≤ y.toInt ∧ y.toInt ≤ 15))) ∧ kk = 1 ∧ T = S)
theorem wf_shades {S T : SS} {hr x y : Int32} {kk vv : Int} (hW : WF S) (hw : WW S) (hO : OC_shades S hr x y kk vv T) : (0 ≤ kk ∧ kk ≤ 3) ∧ WF T ∧ WW T := by
  rcases hO with ⟨hv, rfl, rfl, rfl⟩ | ⟨he, rfl, rfl⟩
  · refine ⟨by omega, ?_⟩
    exact ⟨hW, hw⟩
  · exact ⟨by omega, hW, hw⟩
theorem m_shades {h : Hp} {m : Nat} {A : Nat → Nat} {S T : SS} {hr x y : Int32} {kk vv : Int} {Q : Option Value → Hp → Prop} {QX : String → Hp → Prop} (hW : WF S) (hw : WW S) (hM : MD h m A S) (hC : MC h A S) (hO : OC_shades S hr x y kk vv T) (hq : nxM h m A Q kk vv T) : ct_X5_shades A S [.ref m, .int hr, .int x, .int y] h Q QX := by
  unfold ct_X5_shades
  simp only [sR_c, sI_c, s0_n]
  refine ⟨hM, hC, fun hz => ?_, fun hz => ?_⟩
  · rcases hO with ⟨hv, rfl, rfl, rfl⟩ | ⟨he, rfl, rfl⟩
    · exact hq.z hM hC
    · exfalso; first | exact hz he | exact he hz | exact hz he.1 | exact he hz.1 | exact hz.2 he.2 | exact he.2 hz.2 | exact hz he.1.1 | exact he hz.1.1 | exact hz.2 he.1.2 | exact he.2 hz.1.2
  · rcases hO with ⟨hv, rfl, rfl, rfl⟩ | ⟨he, rfl, rfl⟩
    · exfalso; first | exact hz hv | exact hv hz | exact hz hv.1 | exact hv hz.1 | exact hz.2 hv.2 | exact hv.2 hz.2 | exact hz hv.1.1 | exact hv hz.1.1 | exact hz.2 hv.1.2 | exact hv.2 hz.1.2
    · exact hq.x hM hC (by omega)
/-! area -/
def OC_area (S : SS) (b hr : Int32) (kk vv : Int) (T : SS) : Prop := (((0 ≤ b.toInt ∧ b.toInt < S.nb) ∧ (0 ≤ hr.toInt ∧ hr.toInt ≤ 11)) ∧ kk = 0 ∧ vv = area S b.toInt (tn hr) ∧ T = S) ∨ ((¬ ((0 ≤ b.toInt ∧ b.toInt < S.nb) ∧ (0 ≤ hr.toInt ∧ hr.toInt ≤ 11))) ∧ kk = 1 ∧ T = S)
theorem wf_area {S T : SS} {b hr : Int32} {kk vv : Int} (hW : WF S) (hw : WW S) (hO : OC_area S b hr kk vv T) : (0 ≤ kk ∧ kk ≤ 3) ∧ WF T ∧ WW T := by
  unfold OC_area at hO
  generalize area S b.toInt (tn hr) = aa at hO
  rcases hO with ⟨hv, rfl, rfl, rfl⟩ | ⟨he, rfl, rfl⟩
  · refine ⟨by omega, ?_⟩
    exact ⟨hW, hw⟩
  · exact ⟨by omega, hW, hw⟩
theorem m_area {h : Hp} {m : Nat} {A : Nat → Nat} {S T : SS} {b hr : Int32} {kk vv : Int} {Q : Option Value → Hp → Prop} {QX : String → Hp → Prop} (hW : WF S) (hw : WW S) (hM : MD h m A S) (hC : MC h A S) (hO : OC_area S b hr kk vv T) (hq : nxM h m A Q kk vv T) : ct_X5_area A S [.ref m, .int b, .int hr] h Q QX := by
  unfold ct_X5_area
  simp only [sR_c, sI_c, s0_n]
  unfold OC_area at hO
  generalize area S b.toInt (tn hr) = aa at hO ⊢
  refine ⟨hM, hC, fun hz => ?_, fun hz => ?_⟩
  · rcases hO with ⟨hv, rfl, rfl, rfl⟩ | ⟨he, rfl, rfl⟩
    · exact hq.z hM hC
    · exfalso; first | exact hz he | exact he hz | exact hz he.1 | exact he hz.1 | exact hz.2 he.2 | exact he.2 hz.2 | exact hz he.1.1 | exact he hz.1.1 | exact hz.2 he.1.2 | exact he.2 hz.1.2
  · rcases hO with ⟨hv, rfl, rfl, rfl⟩ | ⟨he, rfl, rfl⟩
    · exfalso; first | exact hz hv | exact hv hz | exact hz hv.1 | exact hv hz.1 | exact hz.2 hv.2 | exact hv.2 hz.2 | exact hz hv.1.1 | exact hv hz.1.1 | exact hz.2 hv.1.2 | exact hv.2 hz.1.2
    · exact hq.x hM hC (by omega)
/-! inHour -/
def OC_inHour (S : SS) (hr w : Int32) (kk vv : Int) (T : SS) : Prop := (((0 ≤ hr.toInt ∧ hr.toInt ≤ 11) ∧ (0 ≤ w.toInt ∧ w.toInt ≤ 3)) ∧ kk = 0 ∧ vv = hrT S (tn hr) (tn w) ∧ T = S) ∨ ((¬ ((0 ≤ hr.toInt ∧ hr.toInt ≤ 11) ∧ (0 ≤ w.toInt ∧ w.toInt ≤ 3))) ∧ kk = 1 ∧ T = S)
theorem wf_inHour {S T : SS} {hr w : Int32} {kk vv : Int} (hW : WF S) (hw : WW S) (hO : OC_inHour S hr w kk vv T) : (0 ≤ kk ∧ kk ≤ 3) ∧ WF T ∧ WW T := by
  rcases hO with ⟨hv, rfl, rfl, rfl⟩ | ⟨he, rfl, rfl⟩
  · refine ⟨by omega, ?_⟩
    exact ⟨hW, hw⟩
  · exact ⟨by omega, hW, hw⟩
theorem m_inHour {h : Hp} {m : Nat} {A : Nat → Nat} {S T : SS} {hr w : Int32} {kk vv : Int} {Q : Option Value → Hp → Prop} {QX : String → Hp → Prop} (hW : WF S) (hw : WW S) (hM : MD h m A S) (hC : MC h A S) (hO : OC_inHour S hr w kk vv T) (hq : nxM h m A Q kk vv T) : ct_X5_inHour A S [.ref m, .int hr, .int w] h Q QX := by
  unfold ct_X5_inHour
  simp only [sR_c, sI_c, s0_n]
  refine ⟨hM, hC, fun hz => ?_, fun hz => ?_⟩
  · rcases hO with ⟨hv, rfl, rfl, rfl⟩ | ⟨he, rfl, rfl⟩
    · exact hq.z hM hC
    · exfalso; first | exact hz he | exact he hz | exact hz he.1 | exact he hz.1 | exact hz.2 he.2 | exact he.2 hz.2 | exact hz he.1.1 | exact he hz.1.1 | exact hz.2 he.1.2 | exact he.2 hz.1.2
  · rcases hO with ⟨hv, rfl, rfl, rfl⟩ | ⟨he, rfl, rfl⟩
    · exfalso; first | exact hz hv | exact hv hz | exact hz hv.1 | exact hv hz.1 | exact hz.2 hv.2 | exact hv.2 hz.2 | exact hz hv.1.1 | exact hv hz.1.1 | exact hz.2 hv.1.2 | exact hv.2 hz.1.2
    · exact hq.x hM hC (by omega)
/-! let -/
def OC_let (S : SS) (b t f l c p : Int32) (kk vv : Int) (T : SS) : Prop := (((((0 ≤ b.toInt ∧ b.toInt < S.nb) ∧ S.bf (tn b) 6 = 1) ∧ vlC t.toInt f.toInt l.toInt c.toInt p.toInt) ∧ S.nl < 40) ∧ kk = 0 ∧ vv = S.nl ∧ T = S.aL (lS b.toInt t.toInt f.toInt l.toInt c.toInt p.toInt)) ∨ ((¬ ((0 ≤ b.toInt ∧ b.toInt < S.nb) ∧ S.bf (tn b) 6 = 1)) ∧ kk = 1 ∧ T = S) ∨ ((((0 ≤ b.toInt ∧ b.toInt < S.nb) ∧ S.bf (tn b) 6 = 1) ∧ ¬ vlC t.toInt f.toInt l.toInt c.toInt p.toInt) ∧ kk = 2 ∧ T = S) ∨ (((((0 ≤ b.toInt ∧ b.toInt < S.nb) ∧ S.bf (tn b) 6 = 1) ∧ vlC t.toInt f.toInt l.toInt c.toInt p.toInt) ∧ ¬ S.nl < 40) ∧ kk = 3 ∧ T = S)
theorem wf_let {S T : SS} {b t f l c p : Int32} {kk vv : Int} (hW : WF S) (hw : WW S) (hO : OC_let S b t f l c p kk vv T) : (0 ≤ kk ∧ kk ≤ 3) ∧ WF T ∧ WW T := by
  rcases hO with ⟨hv, rfl, rfl, rfl⟩ | ⟨he, rfl, rfl⟩ | ⟨he, rfl, rfl⟩ | ⟨he, rfl, rfl⟩
  · refine ⟨by omega, ?_⟩
    exact ⟨WF_aL hW hv.1.1.1 hv.1.2 hv.2, WW_aL hw⟩
  · exact ⟨by omega, hW, hw⟩
  · exact ⟨by omega, hW, hw⟩
  · exact ⟨by omega, hW, hw⟩
theorem m_let {h : Hp} {m : Nat} {A : Nat → Nat} {S T : SS} {b t f l c p : Int32} {kk vv : Int} {Q : Option Value → Hp → Prop} {QX : String → Hp → Prop} (hW : WF S) (hw : WW S) (hM : MD h m A S) (hC : MC h A S) (hO : OC_let S b t f l c p kk vv T) (hq : nxM h m A Q kk vv T) : ct_X5_let A S [.ref m, .int b, .int t, .int f, .int l, .int c, .int p] h Q QX := by
  unfold ct_X5_let
  simp only [sR_c, sI_c, s0_n]
  refine ⟨hM, hC, fun hz => ?_, fun hz => ?_, fun hz => ?_, fun hz => ?_⟩
  · rcases hO with ⟨hv, rfl, rfl, rfl⟩ | ⟨he, rfl, rfl⟩ | ⟨he, rfl, rfl⟩ | ⟨he, rfl, rfl⟩
    · exact hq.n
    · exfalso; first | exact hz he | exact he hz | exact hz he.1 | exact he hz.1 | exact hz.2 he.2 | exact he.2 hz.2 | exact hz he.1.1 | exact he hz.1.1 | exact hz.2 he.1.2 | exact he.2 hz.1.2
    · exfalso; first | exact hz he | exact he hz | exact hz he.1 | exact he hz.1 | exact hz.2 he.2 | exact he.2 hz.2 | exact hz he.1.1 | exact he hz.1.1 | exact hz.2 he.1.2 | exact he.2 hz.1.2
    · exfalso; first | exact hz he | exact he hz | exact hz he.1 | exact he hz.1 | exact hz.2 he.2 | exact he.2 hz.2 | exact hz he.1.1 | exact he hz.1.1 | exact hz.2 he.1.2 | exact he.2 hz.1.2
  · rcases hO with ⟨hv, rfl, rfl, rfl⟩ | ⟨he, rfl, rfl⟩ | ⟨he, rfl, rfl⟩ | ⟨he, rfl, rfl⟩
    · exfalso; first | exact hz hv | exact hv hz | exact hz hv.1 | exact hv hz.1 | exact hz.2 hv.2 | exact hv.2 hz.2 | exact hz hv.1.1 | exact hv hz.1.1 | exact hz.2 hv.1.2 | exact hv.2 hz.1.2
    · exact hq.x hM hC (by omega)
    · exfalso; first | exact hz he | exact he hz | exact hz he.1 | exact he hz.1 | exact hz.2 he.2 | exact he.2 hz.2 | exact hz he.1.1 | exact he hz.1.1 | exact hz.2 he.1.2 | exact he.2 hz.1.2
    · exfalso; first | exact hz he | exact he hz | exact hz he.1 | exact he hz.1 | exact hz.2 he.2 | exact he.2 hz.2 | exact hz he.1.1 | exact he hz.1.1 | exact hz.2 he.1.2 | exact he.2 hz.1.2
  · rcases hO with ⟨hv, rfl, rfl, rfl⟩ | ⟨he, rfl, rfl⟩ | ⟨he, rfl, rfl⟩ | ⟨he, rfl, rfl⟩
    · exfalso; first | exact hz hv | exact hv hz | exact hz hv.1 | exact hv hz.1 | exact hz.2 hv.2 | exact hv.2 hz.2 | exact hz hv.1.1 | exact hv hz.1.1 | exact hz.2 hv.1.2 | exact hv.2 hz.1.2
    · exfalso; first | exact hz he | exact he hz | exact hz he.1 | exact he hz.1 | exact hz.2 he.2 | exact he.2 hz.2 | exact hz he.1.1 | exact he hz.1.1 | exact hz.2 he.1.2 | exact he.2 hz.1.2
    · exact hq.x hM hC (by omega)
    · exfalso; first | exact hz he | exact he hz | exact hz he.1 | exact he hz.1 | exact hz.2 he.2 | exact he.2 hz.2 | exact hz he.1.1 | exact he hz.1.1 | exact hz.2 he.1.2 | exact he.2 hz.1.2
  · rcases hO with ⟨hv, rfl, rfl, rfl⟩ | ⟨he, rfl, rfl⟩ | ⟨he, rfl, rfl⟩ | ⟨he, rfl, rfl⟩
    · exfalso; first | exact hz hv | exact hv hz | exact hz hv.1 | exact hv hz.1 | exact hz.2 hv.2 | exact hv.2 hz.2 | exact hz hv.1.1 | exact hv hz.1.1 | exact hz.2 hv.1.2 | exact hv.2 hz.1.2
    · exfalso; first | exact hz he | exact he hz | exact hz he.1 | exact he hz.1 | exact hz.2 he.2 | exact he.2 hz.2 | exact hz he.1.1 | exact he hz.1.1 | exact hz.2 he.1.2 | exact he.2 hz.1.2
    · exfalso; first | exact hz he | exact he hz | exact hz he.1 | exact he hz.1 | exact hz.2 he.2 | exact he.2 hz.2 | exact hz he.1.1 | exact he hz.1.1 | exact hz.2 he.1.2 | exact he.2 hz.1.2
    · exact hq.x hM hC (by omega)
/-! end -/
def OC_end (S : SS) (l : Int32) (kk vv : Int) (T : SS) : Prop := ((((0 ≤ l.toInt ∧ l.toInt < S.nl) ∧ S.lf (tn l) 6 = 1)) ∧ kk = 0 ∧ vv = S.lf (tn l) 7 ∧ T = S.uL (tn l) 6 0) ∨ ((¬ ((0 ≤ l.toInt ∧ l.toInt < S.nl) ∧ S.lf (tn l) 6 = 1)) ∧ kk = 1 ∧ T = S)
theorem wf_end {S T : SS} {l : Int32} {kk vv : Int} (hW : WF S) (hw : WW S) (hO : OC_end S l kk vv T) : (0 ≤ kk ∧ kk ≤ 3) ∧ WF T ∧ WW T := by
  rcases hO with ⟨hv, rfl, rfl, rfl⟩ | ⟨he, rfl, rfl⟩
  · refine ⟨by omega, ?_⟩
    exact ⟨WF_uL hW (WL_uL hW.2.2.2.1 (Or.inl ⟨rfl, Or.inl rfl⟩)), WW_uL6 hw⟩
  · exact ⟨by omega, hW, hw⟩
theorem m_end {h : Hp} {m : Nat} {A : Nat → Nat} {S T : SS} {l : Int32} {kk vv : Int} {Q : Option Value → Hp → Prop} {QX : String → Hp → Prop} (hW : WF S) (hw : WW S) (hM : MD h m A S) (hC : MC h A S) (hO : OC_end S l kk vv T) (hq : nxM h m A Q kk vv T) : ct_X5_end A S [.ref m, .int l] h Q QX := by
  unfold ct_X5_end
  simp only [sR_c, sI_c, s0_n]
  refine ⟨hM, hC, fun hz => ?_, fun hz => ?_⟩
  · rcases hO with ⟨hv, rfl, rfl, rfl⟩ | ⟨he, rfl, rfl⟩
    · exact hq.w (Fr.sA (WM.r (by omega))) rfl (MD_uL (MD_s0 hM) (by omega)) (MC_uL (MD_s0 hM) (MC_s0 hC))
    · exfalso; simp only [lf1 hW] at hz; first | exact hz he | exact he hz | exact hz he.1 | exact he hz.1 | exact hz.2 he.2 | exact he.2 hz.2
  · rcases hO with ⟨hv, rfl, rfl, rfl⟩ | ⟨he, rfl, rfl⟩
    · exfalso; simp only [lf1 hW] at hz; first | exact hz hv | exact hv hz | exact hz hv.1 | exact hv hz.1 | exact hz.2 hv.2 | exact hv.2 hz.2
    · exact hq.x hM hC (by omega)
/-! setPrice -/
def OC_setPrice (S : SS) (l p : Int32) (kk vv : Int) (T : SS) : Prop := ((((0 ≤ l.toInt ∧ l.toInt < S.nl) ∧ S.lf (tn l) 6 = 1) ∧ (1 ≤ p.toInt ∧ p.toInt ≤ 99)) ∧ kk = 0 ∧ vv = S.lf (tn l) 5 ∧ T = S.uL (tn l) 5 p.toInt) ∨ ((¬ ((0 ≤ l.toInt ∧ l.toInt < S.nl) ∧ S.lf (tn l) 6 = 1)) ∧ kk = 1 ∧ T = S) ∨ ((((0 ≤ l.toInt ∧ l.toInt < S.nl) ∧ S.lf (tn l) 6 = 1) ∧ ¬ (1 ≤ p.toInt ∧ p.toInt ≤ 99)) ∧ kk = 2 ∧ T = S)
theorem wf_setPrice {S T : SS} {l p : Int32} {kk vv : Int} (hW : WF S) (hw : WW S) (hO : OC_setPrice S l p kk vv T) : (0 ≤ kk ∧ kk ≤ 3) ∧ WF T ∧ WW T := by
  rcases hO with ⟨hv, rfl, rfl, rfl⟩ | ⟨he, rfl, rfl⟩ | ⟨he, rfl, rfl⟩
  · refine ⟨by omega, ?_⟩
    exact ⟨WF_uL hW (WL_uL hW.2.2.2.1 (Or.inr (Or.inl ⟨rfl, hv.2⟩))), WW_uL5 hw⟩
  · exact ⟨by omega, hW, hw⟩
  · exact ⟨by omega, hW, hw⟩
theorem m_setPrice {h : Hp} {m : Nat} {A : Nat → Nat} {S T : SS} {l p : Int32} {kk vv : Int} {Q : Option Value → Hp → Prop} {QX : String → Hp → Prop} (hW : WF S) (hw : WW S) (hM : MD h m A S) (hC : MC h A S) (hO : OC_setPrice S l p kk vv T) (hq : nxM h m A Q kk vv T) : ct_X5_setPrice A S [.ref m, .int l, .int p] h Q QX := by
  unfold ct_X5_setPrice
  simp only [sR_c, sI_c, s0_n]
  refine ⟨hM, hC, fun hz => ?_, fun hz => ?_, fun hz => ?_⟩
  · rcases hO with ⟨hv, rfl, rfl, rfl⟩ | ⟨he, rfl, rfl⟩ | ⟨he, rfl, rfl⟩
    · obtain ⟨pV, hpV, rfl⟩ := i32_all p
      rw [i32_toInt hpV] at hq
      exact hq.w (Fr.sA (WM.r (by omega))) rfl (MD_uL (MD_s0 hM) (by omega)) (MC_uL (MD_s0 hM) (MC_s0 hC))
    · exfalso; simp only [lf1 hW] at hz; first | exact hz he | exact he hz | exact hz he.1 | exact he hz.1 | exact hz.2 he.2 | exact he.2 hz.2
    · exfalso; simp only [lf1 hW] at hz; first | exact hz he | exact he hz | exact hz he.1 | exact he hz.1 | exact hz.2 he.2 | exact he.2 hz.2
  · rcases hO with ⟨hv, rfl, rfl, rfl⟩ | ⟨he, rfl, rfl⟩ | ⟨he, rfl, rfl⟩
    · exfalso; simp only [lf1 hW] at hz; first | exact hz hv | exact hv hz | exact hz hv.1 | exact hv hz.1 | exact hz.2 hv.2 | exact hv.2 hz.2
    · exact hq.x hM hC (by omega)
    · exfalso; simp only [lf1 hW] at hz; first | exact hz he | exact he hz | exact hz he.1 | exact he hz.1 | exact hz.2 he.2 | exact he.2 hz.2
  · rcases hO with ⟨hv, rfl, rfl, rfl⟩ | ⟨he, rfl, rfl⟩ | ⟨he, rfl, rfl⟩
    · exfalso; simp only [lf1 hW] at hz; first | exact hz hv | exact hv hz | exact hz hv.1 | exact hv hz.1 | exact hz.2 hv.2 | exact hv.2 hz.2
    · exfalso; simp only [lf1 hW] at hz; first | exact hz he | exact he hz | exact hz he.1 | exact he hz.1 | exact hz.2 he.2 | exact he.2 hz.2
    · exact hq.x hM hC (by omega)
/-! lease -/
def OC_lease (S : SS) (l w : Int32) (kk vv : Int) (T : SS) : Prop := (((0 ≤ l.toInt ∧ l.toInt < S.nl) ∧ (0 ≤ w.toInt ∧ w.toInt ≤ 9)) ∧ kk = 0 ∧ vv = leT S (tn l) (tn w) ∧ T = S) ∨ ((¬ ((0 ≤ l.toInt ∧ l.toInt < S.nl) ∧ (0 ≤ w.toInt ∧ w.toInt ≤ 9))) ∧ kk = 1 ∧ T = S)
theorem wf_lease {S T : SS} {l w : Int32} {kk vv : Int} (hW : WF S) (hw : WW S) (hO : OC_lease S l w kk vv T) : (0 ≤ kk ∧ kk ≤ 3) ∧ WF T ∧ WW T := by
  rcases hO with ⟨hv, rfl, rfl, rfl⟩ | ⟨he, rfl, rfl⟩
  · refine ⟨by omega, ?_⟩
    exact ⟨hW, hw⟩
  · exact ⟨by omega, hW, hw⟩
theorem m_lease {h : Hp} {m : Nat} {A : Nat → Nat} {S T : SS} {l w : Int32} {kk vv : Int} {Q : Option Value → Hp → Prop} {QX : String → Hp → Prop} (hW : WF S) (hw : WW S) (hM : MD h m A S) (hC : MC h A S) (hO : OC_lease S l w kk vv T) (hq : nxM h m A Q kk vv T) : ct_X5_lease A S [.ref m, .int l, .int w] h Q QX := by
  unfold ct_X5_lease
  simp only [sR_c, sI_c, s0_n]
  refine ⟨hM, hC, fun hz => ?_, fun hz => ?_⟩
  · rcases hO with ⟨hv, rfl, rfl, rfl⟩ | ⟨he, rfl, rfl⟩
    · exact hq.z hM hC
    · exfalso; first | exact hz he | exact he hz | exact hz he.1 | exact he hz.1 | exact hz.2 he.2 | exact he.2 hz.2 | exact hz he.1.1 | exact he hz.1.1 | exact hz.2 he.1.2 | exact he.2 hz.1.2
  · rcases hO with ⟨hv, rfl, rfl, rfl⟩ | ⟨he, rfl, rfl⟩
    · exfalso; first | exact hz hv | exact hv hz | exact hz hv.1 | exact hv hz.1 | exact hz.2 hv.2 | exact hv.2 hz.2 | exact hz hv.1.1 | exact hv hz.1.1 | exact hz.2 hv.1.2 | exact hv.2 hz.1.2
    · exact hq.x hM hC (by omega)
/-! gets -/
def OC_gets (S : SS) (l hr : Int32) (kk vv : Int) (T : SS) : Prop := (((0 ≤ l.toInt ∧ l.toInt < S.nl) ∧ (0 ≤ hr.toInt ∧ hr.toInt ≤ 11)) ∧ kk = 0 ∧ vv = gts S (tn l) (tn hr) ∧ T = S) ∨ ((¬ ((0 ≤ l.toInt ∧ l.toInt < S.nl) ∧ (0 ≤ hr.toInt ∧ hr.toInt ≤ 11))) ∧ kk = 1 ∧ T = S)
theorem wf_gets {S T : SS} {l hr : Int32} {kk vv : Int} (hW : WF S) (hw : WW S) (hO : OC_gets S l hr kk vv T) : (0 ≤ kk ∧ kk ≤ 3) ∧ WF T ∧ WW T := by
  rcases hO with ⟨hv, rfl, rfl, rfl⟩ | ⟨he, rfl, rfl⟩
  · refine ⟨by omega, ?_⟩
    exact ⟨hW, hw⟩
  · exact ⟨by omega, hW, hw⟩
theorem m_gets {h : Hp} {m : Nat} {A : Nat → Nat} {S T : SS} {l hr : Int32} {kk vv : Int} {Q : Option Value → Hp → Prop} {QX : String → Hp → Prop} (hW : WF S) (hw : WW S) (hM : MD h m A S) (hC : MC h A S) (hO : OC_gets S l hr kk vv T) (hq : nxM h m A Q kk vv T) : ct_X5_gets A S [.ref m, .int l, .int hr] h Q QX := by
  unfold ct_X5_gets
  simp only [sR_c, sI_c, s0_n]
  refine ⟨hM, hC, fun hz => ?_, fun hz => ?_⟩
  · rcases hO with ⟨hv, rfl, rfl, rfl⟩ | ⟨he, rfl, rfl⟩
    · exact hq.z hM hC
    · exfalso; first | exact hz he | exact he hz | exact hz he.1 | exact he hz.1 | exact hz.2 he.2 | exact he.2 hz.2 | exact hz he.1.1 | exact he hz.1.1 | exact hz.2 he.1.2 | exact he.2 hz.1.2
  · rcases hO with ⟨hv, rfl, rfl, rfl⟩ | ⟨he, rfl, rfl⟩
    · exfalso; first | exact hz hv | exact hv hz | exact hz hv.1 | exact hv hz.1 | exact hz.2 hv.2 | exact hv.2 hz.2 | exact hz hv.1.1 | exact hv hz.1.1 | exact hz.2 hv.1.2 | exact hv.2 hz.1.2
    · exact hq.x hM hC (by omega)
/-! cellOf -/
def OC_cellOf (S : SS) (l hr ix : Int32) (kk vv : Int) (T : SS) : Prop := (((0 ≤ l.toInt ∧ l.toInt < S.nl) ∧ (0 ≤ hr.toInt ∧ hr.toInt ≤ 11) ∧ 0 ≤ ix.toInt) ∧ kk = 0 ∧ vv = ceo S (tn l) (tn hr) ix.toInt ∧ T = S) ∨ ((¬ ((0 ≤ l.toInt ∧ l.toInt < S.nl) ∧ (0 ≤ hr.toInt ∧ hr.toInt ≤ 11) ∧ 0 ≤ ix.toInt)) ∧ kk = 1 ∧ T = S)
theorem wf_cellOf {S T : SS} {l hr ix : Int32} {kk vv : Int} (hW : WF S) (hw : WW S) (hO : OC_cellOf S l hr ix kk vv T) : (0 ≤ kk ∧ kk ≤ 3) ∧ WF T ∧ WW T := by
  rcases hO with ⟨hv, rfl, rfl, rfl⟩ | ⟨he, rfl, rfl⟩
  · refine ⟨by omega, ?_⟩
    exact ⟨hW, hw⟩
  · exact ⟨by omega, hW, hw⟩
theorem m_cellOf {h : Hp} {m : Nat} {A : Nat → Nat} {S T : SS} {l hr ix : Int32} {kk vv : Int} {Q : Option Value → Hp → Prop} {QX : String → Hp → Prop} (hW : WF S) (hw : WW S) (hM : MD h m A S) (hC : MC h A S) (hO : OC_cellOf S l hr ix kk vv T) (hq : nxM h m A Q kk vv T) : ct_X5_cellOf A S [.ref m, .int l, .int hr, .int ix] h Q QX := by
  unfold ct_X5_cellOf
  simp only [sR_c, sI_c, s0_n]
  refine ⟨hM, hC, fun hz => ?_, fun hz => ?_⟩
  · rcases hO with ⟨hv, rfl, rfl, rfl⟩ | ⟨he, rfl, rfl⟩
    · exact hq.z hM hC
    · exfalso; first | exact hz he | exact he hz | exact hz he.1 | exact he hz.1 | exact hz.2 he.2 | exact he.2 hz.2 | exact hz he.1.1 | exact he hz.1.1 | exact hz.2 he.1.2 | exact he.2 hz.1.2
  · rcases hO with ⟨hv, rfl, rfl, rfl⟩ | ⟨he, rfl, rfl⟩
    · exfalso; first | exact hz hv | exact hv hz | exact hz hv.1 | exact hv hz.1 | exact hz.2 hv.2 | exact hv.2 hz.2 | exact hz hv.1.1 | exact hv hz.1.1 | exact hz.2 hv.1.2 | exact hv.2 hz.1.2
    · exact hq.x hM hC (by omega)
/-! pass -/
def OC_pass (S : SS) (d : Int32) (kk vv : Int) (T : SS) : Prop := (((1 ≤ d.toInt ∧ d.toInt ≤ 30) ∧ S.dy + d.toInt ≤ 1000) ∧ kk = 0 ∧ vv = (passS S (tn d)).ev - S.ev ∧ T = passS S (tn d)) ∨ ((¬ (1 ≤ d.toInt ∧ d.toInt ≤ 30)) ∧ kk = 1 ∧ T = S) ∨ (((1 ≤ d.toInt ∧ d.toInt ≤ 30) ∧ ¬ S.dy + d.toInt ≤ 1000) ∧ kk = 2 ∧ T = S)
theorem wf_pass {S T : SS} {d : Int32} {kk vv : Int} (hW : WF S) (hw : WW S) (hO : OC_pass S d kk vv T) : (0 ≤ kk ∧ kk ≤ 3) ∧ WF T ∧ WW T := by
  rcases hO with ⟨hv, rfl, rfl, rfl⟩ | ⟨he, rfl, rfl⟩ | ⟨he, rfl, rfl⟩
  · refine ⟨by omega, ?_⟩
    have h := passS_ok hW hw (tn d) (by unfold tn; omega)
    exact ⟨h.1, h.2.1⟩
  · exact ⟨by omega, hW, hw⟩
  · exact ⟨by omega, hW, hw⟩
theorem m_pass {h : Hp} {m : Nat} {A : Nat → Nat} {S T : SS} {d : Int32} {kk vv : Int} {Q : Option Value → Hp → Prop} {QX : String → Hp → Prop} (hW : WF S) (hw : WW S) (hM : MD h m A S) (hC : MC h A S) (hO : OC_pass S d kk vv T) (hq : nxM h m A Q kk vv T) : ct_X5_pass A S [.ref m, .int d] h Q QX := by
  unfold ct_X5_pass
  simp only [sR_c, sI_c, s0_n]
  refine ⟨hM, hC, hw, fun hz => ?_, fun hz => ?_, fun hz => ?_⟩
  · rcases hO with ⟨hv, rfl, rfl, rfl⟩ | ⟨he, rfl, rfl⟩ | ⟨he, rfl, rfl⟩
    · exact hq.n
    · exfalso; first | exact hz he | exact he hz | exact hz he.1 | exact he hz.1 | exact hz.2 he.2 | exact he.2 hz.2 | exact hz he.1.1 | exact he hz.1.1 | exact hz.2 he.1.2 | exact he.2 hz.1.2
    · exfalso; first | exact hz he | exact he hz | exact hz he.1 | exact he hz.1 | exact hz.2 he.2 | exact he.2 hz.2 | exact hz he.1.1 | exact he hz.1.1 | exact hz.2 he.1.2 | exact he.2 hz.1.2
  · rcases hO with ⟨hv, rfl, rfl, rfl⟩ | ⟨he, rfl, rfl⟩ | ⟨he, rfl, rfl⟩
    · exfalso; first | exact hz hv | exact hv hz | exact hz hv.1 | exact hv hz.1 | exact hz.2 hv.2 | exact hv.2 hz.2 | exact hz hv.1.1 | exact hv hz.1.1 | exact hz.2 hv.1.2 | exact hv.2 hz.1.2
    · exact hq.x hM hC (by omega)
    · exfalso; first | exact hz he | exact he hz | exact hz he.1 | exact he hz.1 | exact hz.2 he.2 | exact he.2 hz.2 | exact hz he.1.1 | exact he hz.1.1 | exact hz.2 he.1.2 | exact he.2 hz.1.2
  · rcases hO with ⟨hv, rfl, rfl, rfl⟩ | ⟨he, rfl, rfl⟩ | ⟨he, rfl, rfl⟩
    · exfalso; first | exact hz hv | exact hv hz | exact hz hv.1 | exact hv hz.1 | exact hz.2 hv.2 | exact hv.2 hz.2 | exact hz hv.1.1 | exact hv hz.1.1 | exact hz.2 hv.1.2 | exact hv.2 hz.1.2
    · exfalso; first | exact hz he | exact he hz | exact hz he.1 | exact he hz.1 | exact hz.2 he.2 | exact he.2 hz.2 | exact hz he.1.1 | exact he hz.1.1 | exact hz.2 he.1.2 | exact he.2 hz.1.2
    · exact hq.x hM hC (by omega)
/-! count -/
def OC_count (S : SS) (w : Int32) (kk vv : Int) (T : SS) : Prop := ((0 ≤ w.toInt ∧ w.toInt ≤ 5) ∧ kk = 0 ∧ vv = coT S (tn w) ∧ T = S) ∨ ((¬ (0 ≤ w.toInt ∧ w.toInt ≤ 5)) ∧ kk = 1 ∧ T = S)
theorem wf_count {S T : SS} {w : Int32} {kk vv : Int} (hW : WF S) (hw : WW S) (hO : OC_count S w kk vv T) : (0 ≤ kk ∧ kk ≤ 3) ∧ WF T ∧ WW T := by
  rcases hO with ⟨hv, rfl, rfl, rfl⟩ | ⟨he, rfl, rfl⟩
  · refine ⟨by omega, ?_⟩
    exact ⟨hW, hw⟩
  · exact ⟨by omega, hW, hw⟩
theorem m_count {h : Hp} {m : Nat} {A : Nat → Nat} {S T : SS} {w : Int32} {kk vv : Int} {Q : Option Value → Hp → Prop} {QX : String → Hp → Prop} (hW : WF S) (hw : WW S) (hM : MD h m A S) (hC : MC h A S) (hO : OC_count S w kk vv T) (hq : nxM h m A Q kk vv T) : ct_X5_count A S [.ref m, .int w] h Q QX := by
  unfold ct_X5_count
  simp only [sR_c, sI_c, s0_n]
  refine ⟨hM, hC, fun hz => ?_, fun hz => ?_⟩
  · rcases hO with ⟨hv, rfl, rfl, rfl⟩ | ⟨he, rfl, rfl⟩
    · exact hq.z hM hC
    · exfalso; first | exact hz he | exact he hz | exact hz he.1 | exact he hz.1 | exact hz.2 he.2 | exact he.2 hz.2 | exact hz he.1.1 | exact he hz.1.1 | exact hz.2 he.1.2 | exact he.2 hz.1.2
  · rcases hO with ⟨hv, rfl, rfl, rfl⟩ | ⟨he, rfl, rfl⟩
    · exfalso; first | exact hz hv | exact hv hz | exact hz hv.1 | exact hv hz.1 | exact hz.2 hv.2 | exact hv.2 hz.2 | exact hz hv.1.1 | exact hv hz.1.1 | exact hz.2 hv.1.2 | exact hv.2 hz.1.2
    · exact hq.x hM hC (by omega)
/-! got -/
def OC_got (S : SS) (o : Int32) (kk vv : Int) (T : SS) : Prop := ((0 ≤ o.toInt ∧ o.toInt ≤ 7) ∧ kk = 0 ∧ vv = S.gt (tn o) ∧ T = S) ∨ ((¬ (0 ≤ o.toInt ∧ o.toInt ≤ 7)) ∧ kk = 1 ∧ T = S)
theorem wf_got {S T : SS} {o : Int32} {kk vv : Int} (hW : WF S) (hw : WW S) (hO : OC_got S o kk vv T) : (0 ≤ kk ∧ kk ≤ 3) ∧ WF T ∧ WW T := by
  rcases hO with ⟨hv, rfl, rfl, rfl⟩ | ⟨he, rfl, rfl⟩
  · refine ⟨by omega, ?_⟩
    exact ⟨hW, hw⟩
  · exact ⟨by omega, hW, hw⟩
theorem m_got {h : Hp} {m : Nat} {A : Nat → Nat} {S T : SS} {o : Int32} {kk vv : Int} {Q : Option Value → Hp → Prop} {QX : String → Hp → Prop} (hW : WF S) (hw : WW S) (hM : MD h m A S) (hC : MC h A S) (hO : OC_got S o kk vv T) (hq : nxM h m A Q kk vv T) : ct_X5_got A S [.ref m, .int o] h Q QX := by
  unfold ct_X5_got
  simp only [sR_c, sI_c, s0_n]
  refine ⟨hM, hC, fun hz => ?_, fun hz => ?_⟩
  · rcases hO with ⟨hv, rfl, rfl, rfl⟩ | ⟨he, rfl, rfl⟩
    · exact hq.z hM hC
    · exfalso; first | exact hz he | exact he hz | exact hz he.1 | exact he hz.1 | exact hz.2 he.2 | exact he.2 hz.2 | exact hz he.1.1 | exact he hz.1.1 | exact hz.2 he.1.2 | exact he.2 hz.1.2
  · rcases hO with ⟨hv, rfl, rfl, rfl⟩ | ⟨he, rfl, rfl⟩
    · exfalso; first | exact hz hv | exact hv hz | exact hz hv.1 | exact hv hz.1 | exact hz.2 hv.2 | exact hv.2 hz.2 | exact hz hv.1.1 | exact hv hz.1.1 | exact hz.2 hv.1.2 | exact hv.2 hz.1.2
    · exact hq.x hM hC (by omega)
/-! paid -/
def OC_paid (S : SS) (o : Int32) (kk vv : Int) (T : SS) : Prop := ((0 ≤ o.toInt ∧ o.toInt ≤ 15) ∧ kk = 0 ∧ vv = S.pd (tn o) ∧ T = S) ∨ ((¬ (0 ≤ o.toInt ∧ o.toInt ≤ 15)) ∧ kk = 1 ∧ T = S)
theorem wf_paid {S T : SS} {o : Int32} {kk vv : Int} (hW : WF S) (hw : WW S) (hO : OC_paid S o kk vv T) : (0 ≤ kk ∧ kk ≤ 3) ∧ WF T ∧ WW T := by
  rcases hO with ⟨hv, rfl, rfl, rfl⟩ | ⟨he, rfl, rfl⟩
  · refine ⟨by omega, ?_⟩
    exact ⟨hW, hw⟩
  · exact ⟨by omega, hW, hw⟩
theorem m_paid {h : Hp} {m : Nat} {A : Nat → Nat} {S T : SS} {o : Int32} {kk vv : Int} {Q : Option Value → Hp → Prop} {QX : String → Hp → Prop} (hW : WF S) (hw : WW S) (hM : MD h m A S) (hC : MC h A S) (hO : OC_paid S o kk vv T) (hq : nxM h m A Q kk vv T) : ct_X5_paid A S [.ref m, .int o] h Q QX := by
  unfold ct_X5_paid
  simp only [sR_c, sI_c, s0_n]
  refine ⟨hM, hC, fun hz => ?_, fun hz => ?_⟩
  · rcases hO with ⟨hv, rfl, rfl, rfl⟩ | ⟨he, rfl, rfl⟩
    · exact hq.z hM hC
    · exfalso; first | exact hz he | exact he hz | exact hz he.1 | exact he hz.1 | exact hz.2 he.2 | exact he.2 hz.2 | exact hz he.1.1 | exact he hz.1.1 | exact hz.2 he.1.2 | exact he.2 hz.1.2
  · rcases hO with ⟨hv, rfl, rfl, rfl⟩ | ⟨he, rfl, rfl⟩
    · exfalso; first | exact hz hv | exact hv hz | exact hz hv.1 | exact hv hz.1 | exact hz.2 hv.2 | exact hv.2 hz.2 | exact hz hv.1.1 | exact hv hz.1.1 | exact hz.2 hv.1.2 | exact hv.2 hz.1.2
    · exact hq.x hM hC (by omega)
/-! advise -/
def OC_advise (S : SS) (f l p w : Int32) (kk vv : Int) (T : SS) : Prop := ((advC f.toInt l.toInt p.toInt ∧ (0 ≤ w.toInt ∧ w.toInt ≤ 1)) ∧ kk = 0 ∧ vv = advV S f.toInt l.toInt p.toInt w.toInt ∧ T = S) ∨ ((¬ advC f.toInt l.toInt p.toInt) ∧ kk = 1 ∧ T = S) ∨ ((advC f.toInt l.toInt p.toInt ∧ ¬ (0 ≤ w.toInt ∧ w.toInt ≤ 1)) ∧ kk = 2 ∧ T = S)
theorem wf_advise {S T : SS} {f l p w : Int32} {kk vv : Int} (hW : WF S) (hw : WW S) (hO : OC_advise S f l p w kk vv T) : (0 ≤ kk ∧ kk ≤ 3) ∧ WF T ∧ WW T := by
  rcases hO with ⟨hv, rfl, rfl, rfl⟩ | ⟨he, rfl, rfl⟩ | ⟨he, rfl, rfl⟩
  · refine ⟨by omega, ?_⟩
    exact ⟨hW, hw⟩
  · exact ⟨by omega, hW, hw⟩
  · exact ⟨by omega, hW, hw⟩
theorem m_advise {h : Hp} {m : Nat} {A : Nat → Nat} {S T : SS} {f l p w : Int32} {kk vv : Int} {Q : Option Value → Hp → Prop} {QX : String → Hp → Prop} (hW : WF S) (hw : WW S) (hM : MD h m A S) (hC : MC h A S) (hO : OC_advise S f l p w kk vv T) (hq : nxM h m A Q kk vv T) : ct_X5_advise A S [.ref m, .int f, .int l, .int p, .int w] h Q QX := by
  unfold ct_X5_advise
  simp only [sR_c, sI_c, s0_n]
  refine ⟨hM, hC, fun hz => ?_, fun hz => ?_, fun hz => ?_⟩
  · rcases hO with ⟨hv, rfl, rfl, rfl⟩ | ⟨he, rfl, rfl⟩ | ⟨he, rfl, rfl⟩
    · exact hq.z hM hC
    · exfalso; first | exact hz he | exact he hz | exact hz he.1 | exact he hz.1 | exact hz.2 he.2 | exact he.2 hz.2 | exact hz he.1.1 | exact he hz.1.1 | exact hz.2 he.1.2 | exact he.2 hz.1.2
    · exfalso; first | exact hz he | exact he hz | exact hz he.1 | exact he hz.1 | exact hz.2 he.2 | exact he.2 hz.2 | exact hz he.1.1 | exact he hz.1.1 | exact hz.2 he.1.2 | exact he.2 hz.1.2
  · rcases hO with ⟨hv, rfl, rfl, rfl⟩ | ⟨he, rfl, rfl⟩ | ⟨he, rfl, rfl⟩
    · exfalso; first | exact hz hv | exact hv hz | exact hz hv.1 | exact hv hz.1 | exact hz.2 hv.2 | exact hv.2 hz.2 | exact hz hv.1.1 | exact hv hz.1.1 | exact hz.2 hv.1.2 | exact hv.2 hz.1.2
    · exact hq.x hM hC (by omega)
    · exfalso; first | exact hz he | exact he hz | exact hz he.1 | exact he hz.1 | exact hz.2 he.2 | exact he.2 hz.2 | exact hz he.1.1 | exact he hz.1.1 | exact hz.2 he.1.2 | exact he.2 hz.1.2
  · rcases hO with ⟨hv, rfl, rfl, rfl⟩ | ⟨he, rfl, rfl⟩ | ⟨he, rfl, rfl⟩
    · exfalso; first | exact hz hv | exact hv hz | exact hz hv.1 | exact hv hz.1 | exact hz.2 hv.2 | exact hv.2 hz.2 | exact hz hv.1.1 | exact hv hz.1.1 | exact hz.2 hv.1.2 | exact hv.2 hz.1.2
    · exfalso; first | exact hz he | exact he hz | exact hz he.1 | exact he hz.1 | exact hz.2 he.2 | exact he.2 hz.2 | exact hz he.1.1 | exact he hz.1.1 | exact hz.2 he.1.2 | exact he.2 hz.1.2
    · exact hq.x hM hC (by omega)
/-! wouldGet -/
def OC_wouldGet (S : SS) (b v : Int32) (kk vv : Int) (T : SS) : Prop := ((((0 ≤ b.toInt ∧ b.toInt < S.nb) ∧ S.bf (tn b) 6 = 1) ∧ (1 ≤ v.toInt ∧ v.toInt ≤ 9)) ∧ kk = 0 ∧ vv = wgS (S.uB (tn b) 4 v.toInt) (tn b) ∧ T = S) ∨ ((¬ ((0 ≤ b.toInt ∧ b.toInt < S.nb) ∧ S.bf (tn b) 6 = 1)) ∧ kk = 1 ∧ T = S) ∨ ((((0 ≤ b.toInt ∧ b.toInt < S.nb) ∧ S.bf (tn b) 6 = 1) ∧ ¬ (1 ≤ v.toInt ∧ v.toInt ≤ 9)) ∧ kk = 2 ∧ T = S)
theorem wf_wouldGet {S T : SS} {b v : Int32} {kk vv : Int} (hW : WF S) (hw : WW S) (hO : OC_wouldGet S b v kk vv T) : (0 ≤ kk ∧ kk ≤ 3) ∧ WF T ∧ WW T := by
  rcases hO with ⟨hv, rfl, rfl, rfl⟩ | ⟨he, rfl, rfl⟩ | ⟨he, rfl, rfl⟩
  · refine ⟨by omega, ?_⟩
    exact ⟨hW, hw⟩
  · exact ⟨by omega, hW, hw⟩
  · exact ⟨by omega, hW, hw⟩
theorem m_wouldGet {h : Hp} {m : Nat} {A : Nat → Nat} {S T : SS} {b v : Int32} {kk vv : Int} {Q : Option Value → Hp → Prop} {QX : String → Hp → Prop} (hW : WF S) (hw : WW S) (hM : MD h m A S) (hC : MC h A S) (hO : OC_wouldGet S b v kk vv T) (hq : nxM h m A Q kk vv T) : ct_X5_wouldGet A S [.ref m, .int b, .int v] h Q QX := by
  unfold ct_X5_wouldGet
  simp only [sR_c, sI_c, s0_n]
  refine ⟨hM, hC, fun hz => ?_, fun hz => ?_, fun hz => ?_⟩
  · rcases hO with ⟨hv, rfl, rfl, rfl⟩ | ⟨he, rfl, rfl⟩ | ⟨he, rfl, rfl⟩
    · exact hq.n
    · exfalso; first | exact hz he | exact he hz | exact hz he.1 | exact he hz.1 | exact hz.2 he.2 | exact he.2 hz.2 | exact hz he.1.1 | exact he hz.1.1 | exact hz.2 he.1.2 | exact he.2 hz.1.2
    · exfalso; first | exact hz he | exact he hz | exact hz he.1 | exact he hz.1 | exact hz.2 he.2 | exact he.2 hz.2 | exact hz he.1.1 | exact he hz.1.1 | exact hz.2 he.1.2 | exact he.2 hz.1.2
  · rcases hO with ⟨hv, rfl, rfl, rfl⟩ | ⟨he, rfl, rfl⟩ | ⟨he, rfl, rfl⟩
    · exfalso; first | exact hz hv | exact hv hz | exact hz hv.1 | exact hv hz.1 | exact hz.2 hv.2 | exact hv.2 hz.2 | exact hz hv.1.1 | exact hv hz.1.1 | exact hz.2 hv.1.2 | exact hv.2 hz.1.2
    · exact hq.x hM hC (by omega)
    · exfalso; first | exact hz he | exact he hz | exact hz he.1 | exact he hz.1 | exact hz.2 he.2 | exact he.2 hz.2 | exact hz he.1.1 | exact he hz.1.1 | exact hz.2 he.1.2 | exact he.2 hz.1.2
  · rcases hO with ⟨hv, rfl, rfl, rfl⟩ | ⟨he, rfl, rfl⟩ | ⟨he, rfl, rfl⟩
    · exfalso; first | exact hz hv | exact hv hz | exact hz hv.1 | exact hv hz.1 | exact hz.2 hv.2 | exact hv.2 hz.2 | exact hz hv.1.1 | exact hv hz.1.1 | exact hz.2 hv.1.2 | exact hv.2 hz.1.2
    · exfalso; first | exact hz he | exact he hz | exact hz he.1 | exact he hz.1 | exact hz.2 he.2 | exact he.2 hz.2 | exact hz he.1.1 | exact he hz.1.1 | exact hz.2 he.1.2 | exact he.2 hz.1.2
    · exact hq.x hM hC (by omega)
