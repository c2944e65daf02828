section MD28
/-- what the model's state holds at index i -/
def md_bx (B i v : Int) : Prop := (i = 0 → 0 ≤ v ∧ v ≤ 10) ∧ (i = 1 → 0 ≤ v ∧ v ≤ 16) ∧ (i = 2 → 0 ≤ v ∧ v ≤ 4) ∧ (i = 3 → -99999 ≤ v ∧ v ≤ 99999) ∧ (4 ≤ i ∧ i < 14 → v = 0 ∨ v = 1) ∧ (14 ≤ i ∧ i < 24 → -99999 ≤ v ∧ v ≤ 99999) ∧ (24 ≤ i ∧ i < 56 → 0 ≤ v ∧ v < 10) ∧ (56 ≤ i ∧ i < 72 → 0 ≤ v ∧ v ≤ 50) ∧ (72 ≤ i ∧ i < 88 → -9999 ≤ v ∧ v ≤ 9999) ∧ (88 ≤ i ∧ i < 104 → v = 0 ∨ v = 1) ∧ (104 ≤ i ∧ i < 120 → -9999 ≤ v ∧ v ≤ 9999) ∧ (120 ≤ i ∧ i < 136 → v = 0 ∨ v = 1) ∧ (136 ≤ i ∧ i < 152 → -B ≤ v ∧ v ≤ B) ∧ (152 ≤ i ∧ i < 156 → 0 ≤ v ∧ v < 10) ∧ (156 ≤ i ∧ i < 160 → 0 ≤ v ∧ v ≤ 10) ∧ (160 ≤ i ∧ i < 240 → -999 ≤ v ∧ v ≤ 999)
theorem md_sft {f : Int → Int} {p : Int → Prop} {a n : Int} (h : ∀ l, 0 ≤ l ∧ l < n → p (f (a + l))) {i : Int} (hi : a ≤ i ∧ i < a + n) : p (f i) := by
  have h2 := h (i - a) ⟨by omega, by omega⟩
  rwa [show a + (i - a) = i by omega] at h2
theorem md_bx_of {B : Int} {g : Int → Int} (h : md_inv B g) (i : Int) : md_bx B i (g i) := by
  obtain ⟨h0, h1, h2, h3, hp, hl, hB, hq, hs⟩ := h
  refine ⟨?_, ?_, ?_, ?_, ?_, ?_, ?_, ?_, ?_, ?_, ?_, ?_, ?_, ?_, ?_, ?_⟩
  · intro e; rw [e]; exact h0
  · intro e; rw [e]; exact h1
  · intro e; rw [e]; exact h2
  · intro e; rw [e]; exact h3
  · exact fun e => md_sft (p := fun v => v = 0 ∨ v = 1) (n := 10) (fun l e => (hp l e).1) ⟨e.1, by omega⟩
  · exact fun e => md_sft (p := fun v => -99999 ≤ v ∧ v ≤ 99999) (n := 10) (fun l e => (hp l e).2) ⟨e.1, by omega⟩
  · intro e
    by_cases h : i < 40
    · exact md_sft (p := fun v => 0 ≤ v ∧ v < 10) (n := 16) (fun l e => (hl l e).1) ⟨e.1, by omega⟩
    · exact md_sft (p := fun v => 0 ≤ v ∧ v < 10) (a := 40) (n := 16) (fun l e => (hl l e).2.1) ⟨by omega, by omega⟩
  · exact fun e => md_sft (p := fun v => 0 ≤ v ∧ v ≤ 50) (n := 16) (fun l e => (hl l e).2.2.1) ⟨e.1, by omega⟩
  · exact fun e => md_sft (p := fun v => -9999 ≤ v ∧ v ≤ 9999) (n := 16) (fun l e => (hl l e).2.2.2.1) ⟨e.1, by omega⟩
  · exact fun e => md_sft (p := fun v => v = 0 ∨ v = 1) (n := 16) (fun l e => (hl l e).2.2.2.2.1) ⟨e.1, by omega⟩
  · exact fun e => md_sft (p := fun v => -9999 ≤ v ∧ v ≤ 9999) (n := 16) (fun l e => (hl l e).2.2.2.2.2.1) ⟨e.1, by omega⟩
  · exact fun e => md_sft (p := fun v => v = 0 ∨ v = 1) (n := 16) (fun l e => (hl l e).2.2.2.2.2.2.1) ⟨e.1, by omega⟩
  · exact fun e => md_sft (p := fun v => -B ≤ v ∧ v ≤ B) (n := 16) (fun l e => (hl l e).2.2.2.2.2.2.2) ⟨e.1, by omega⟩
  · exact fun e => md_sft (p := fun v => 0 ≤ v ∧ v < 10) (n := 4) (fun l e => (hq l e).2) ⟨e.1, by omega⟩
  · exact fun e => md_sft (p := fun v => 0 ≤ v ∧ v ≤ 10) (n := 4) (fun l e => (hq l e).1) ⟨e.1, by omega⟩
  · exact fun e => hs i e
theorem md_of_bx {B : Int} {g : Int → Int} (hB : 0 ≤ B ∧ B ≤ 1100000) (h : ∀ i, md_bx B i (g i)) : md_inv B g := by
  refine ⟨(h 0).1 rfl, (h 1).2.1 rfl, (h 2).2.2.1 rfl, (h 3).2.2.2.1 rfl, fun p hp => ?_, fun l hl => ?_, hB, fun q hq => ?_, fun i hi => (h i).2.2.2.2.2.2.2.2.2.2.2.2.2.2.2 hi⟩
  · exact ⟨(h (4 + p)).2.2.2.2.1 ⟨by omega, by omega⟩, (h (14 + p)).2.2.2.2.2.1 ⟨by omega, by omega⟩⟩
  · exact ⟨(h (24 + l)).2.2.2.2.2.2.1 ⟨by omega, by omega⟩, (h (40 + l)).2.2.2.2.2.2.1 ⟨by omega, by omega⟩, (h (56 + l)).2.2.2.2.2.2.2.1 ⟨by omega, by omega⟩, (h (72 + l)).2.2.2.2.2.2.2.2.1 ⟨by omega, by omega⟩, (h (88 + l)).2.2.2.2.2.2.2.2.2.1 ⟨by omega, by omega⟩, (h (104 + l)).2.2.2.2.2.2.2.2.2.2.1 ⟨by omega, by omega⟩, (h (120 + l)).2.2.2.2.2.2.2.2.2.2.2.1 ⟨by omega, by omega⟩, (h (136 + l)).2.2.2.2.2.2.2.2.2.2.2.2.1 ⟨by omega, by omega⟩⟩
  · exact ⟨(h (156 + q)).2.2.2.2.2.2.2.2.2.2.2.2.2.2.1 ⟨by omega, by omega⟩, (h (152 + q)).2.2.2.2.2.2.2.2.2.2.2.2.2.1 ⟨by omega, by omega⟩⟩
/-- more room for the corrections -/
theorem md_inv_up {B B2 : Int} {g : Int → Int} (h : md_inv B g) (h2 : B ≤ B2) (h3 : B2 ≤ 1100000) : md_inv B2 g := by
  have hB := h.2.2.2.2.2.2.1
  refine md_of_bx ⟨by omega, h3⟩ (fun i => ?_)
  have h4 := md_bx_of h i
  unfold md_bx at h4 ⊢
  obtain ⟨a0, a1, a2, a3, a4, a5, a6, a7, a8, a9, a10, a11, a12, a13⟩ := h4
  exact ⟨a0, a1, a2, a3, a4, a5, a6, a7, a8, a9, a10, a11, fun e => by have := a12 e; exact ⟨by omega, by omega⟩, a13⟩
theorem md_inv_set {B : Int} {g : Int → Int} (h : md_inv B g) {i v : Int} (hv : md_bx B i v) : md_inv B (jk_set g i v) := by
  refine md_of_bx h.2.2.2.2.2.2.1 (fun j => ?_)
  by_cases e : j = i
  · rw [e, jk_set_at]; exact hv
  · rw [jk_set_ne _ _ e]; exact md_bx_of h j
/-- what is unused is zero -/
def md_unu (g : Int → Int) : Prop := (∀ p, g 0 ≤ p ∧ p < 10 → g (4 + p) = 0) ∧ (∀ l, g 1 ≤ l ∧ l < 16 → g (88 + l) = 0 ∧ g (120 + l) = 0 ∧ g (136 + l) = 0) ∧ ∀ q, g 2 ≤ q ∧ q < 4 → g (156 + q) = 0
def md_all (B : Int) (g : Int → Int) : Prop := md_inv B g ∧ md_inw g ∧ md_inx g ∧ md_zf 240 g ∧ md_unu g

theorem md_inw_cong {g g' : Int → Int} (h1 : g 1 ≤ 16) (hw : md_inw g) (h : ∀ i, i = 0 ∨ i = 1 ∨ (24 ≤ i ∧ i < 72) → g' i = g i) : md_inw g' := by
  intro l hl
  have e1 := h 1 (by omega)
  have h2 := hw l (by omega)
  rw [h 0 (by omega), h (56 + l) (by omega), h (24 + l) (by omega), h (40 + l) (by omega)]
  exact h2
theorem md_inx_cong {B : Int} {g g' : Int → Int} (hi : md_inv B g) (hx : md_inx g) (h : ∀ i, i = 2 ∨ (156 ≤ i ∧ i < 200) → g' i = g i) : md_inx g' := by
  intro q hq
  have e1 := h 2 (by omega)
  have i2 := hi.2.2.1
  have h2 := hx q (by omega)
  have h3 := (hi.2.2.2.2.2.2.2.1 q ⟨by omega, by omega⟩).1
  have e2 := h (156 + q) (by omega)
  rw [e2]
  refine ⟨fun s hs => ?_, fun s hs => ?_⟩
  · have := h2.1 s hs
    unfold md_Ds at this ⊢
    rw [h (160 + 10 * q + s) (by omega)]; exact this
  · have := h2.2 s hs
    unfold md_Ds at this ⊢
    rw [h (160 + 10 * q + s) (by omega), h (160 + 10 * q + (s + 1)) (by omega)]; exact this
theorem md_unu_cong {g g' : Int → Int} (hu : md_unu g) (h0 : g 0 ≤ g' 0) (h1 : g 1 ≤ g' 1) (h2 : g 2 ≤ g' 2) (ha : ∀ p, g' 0 ≤ p ∧ p < 10 → g' (4 + p) = g (4 + p)) (hb : ∀ l, g' 1 ≤ l ∧ l < 16 → g' (88 + l) = g (88 + l) ∧ g' (120 + l) = g (120 + l) ∧ (g' (136 + l) = g (136 + l) ∨ g' (136 + l) = 0)) (hc : ∀ q, g' 2 ≤ q ∧ q < 4 → g' (156 + q) = g (156 + q)) : md_unu g' := by
  refine ⟨fun p hp => (ha p hp).trans (hu.1 p ⟨by omega, hp.2⟩), fun l hl => ?_, fun q hq => (hc q hq).trans (hu.2.2 q ⟨by omega, hq.2⟩)⟩
  have h3 := hu.2.1 l ⟨by omega, hl.2⟩
  have h4 := hb l hl
  exact ⟨h4.1.trans h3.1, h4.2.1.trans h3.2.1, h4.2.2.elim (fun e => e.trans h3.2.2) id⟩

theorem md_all_water {B : Int} {g : Int → Int} (h : md_all B g) {w : Int} (hw : -99999 ≤ w ∧ w ≤ 99999) : md_all B (jk_set g 3 w) := by
  obtain ⟨hi, hw2, hx, hz, hu⟩ := h
  obtain ⟨i0, i1, i2, -⟩ := id hi
  refine ⟨md_inv_set hi (by unfold md_bx; refine ⟨?_, ?_, ?_, ?_, ?_, ?_, ?_, ?_, ?_, ?_, ?_, ?_, ?_, ?_, ?_, ?_⟩ <;> omega), md_inw_cong i1.2 hw2 (fun i _ => jk_set_ne _ _ (by omega)), md_inx_cong hi hx (fun i _ => jk_set_ne _ _ (by omega)), md_zf_set hz ⟨by omega, by omega⟩, ?_⟩
  refine md_unu_cong hu ?_ ?_ ?_ (fun p hp => ?_) (fun l hl => ?_) (fun q hq => ?_)
  all_goals simp only [jk_set] at *
  all_goals (first | omega | grind)
theorem md_all_fix {B : Int} {g : Int → Int} (h : md_all B g) {p v : Int} (hp : 0 ≤ p ∧ p < g 0) (hv : -99999 ≤ v ∧ v ≤ 99999) : md_all B (md_fixG g p v) := by
  obtain ⟨hi, hw2, hx, hz, hu⟩ := h
  obtain ⟨i0, i1, i2, -⟩ := id hi
  unfold md_fixG
  refine ⟨md_inv_set (md_inv_set hi (by unfold md_bx; refine ⟨?_, ?_, ?_, ?_, ?_, ?_, ?_, ?_, ?_, ?_, ?_, ?_, ?_, ?_, ?_, ?_⟩ <;> omega)) (by unfold md_bx; refine ⟨?_, ?_, ?_, ?_, ?_, ?_, ?_, ?_, ?_, ?_, ?_, ?_, ?_, ?_, ?_, ?_⟩ <;> omega), md_inw_cong i1.2 hw2 (fun i _ => by rw [jk_set_ne _ _ (by omega), jk_set_ne _ _ (by omega)]), md_inx_cong hi hx (fun i _ => by rw [jk_set_ne _ _ (by omega), jk_set_ne _ _ (by omega)]), md_zf_set (md_zf_set hz ⟨by omega, by omega⟩) ⟨by omega, by omega⟩, ?_⟩
  refine md_unu_cong hu ?_ ?_ ?_ (fun p hp => ?_) (fun l hl => ?_) (fun q hq => ?_)
  all_goals simp only [jk_set] at *
  all_goals grind
theorem md_all_rel {B : Int} {g : Int → Int} (h : md_all B g) {p : Int} (hp : 0 ≤ p ∧ p < g 0) : md_all B (jk_set g (4 + p) 0) := by
  obtain ⟨hi, hw2, hx, hz, hu⟩ := h
  obtain ⟨i0, i1, i2, -⟩ := id hi
  refine ⟨md_inv_set hi (by unfold md_bx; refine ⟨?_, ?_, ?_, ?_, ?_, ?_, ?_, ?_, ?_, ?_, ?_, ?_, ?_, ?_, ?_, ?_⟩ <;> omega), md_inw_cong i1.2 hw2 (fun i _ => jk_set_ne _ _ (by omega)), md_inx_cong hi hx (fun i _ => jk_set_ne _ _ (by omega)), md_zf_set hz ⟨by omega, by omega⟩, ?_⟩
  refine md_unu_cong hu ?_ ?_ ?_ (fun p hp => ?_) (fun l hl => ?_) (fun q hq => ?_)
  all_goals simp only [jk_set] at *
  all_goals grind
theorem md_all_mark {B : Int} {g : Int → Int} (h : md_all B g) {l w : Int} (hl : 0 ≤ l ∧ l < g 1) (hw : w = 0 ∨ w = 1) : md_all B (jk_set g (120 + l) w) := by
  obtain ⟨hi, hw2, hx, hz, hu⟩ := h
  obtain ⟨i0, i1, i2, -⟩ := id hi
  refine ⟨md_inv_set hi (by unfold md_bx; refine ⟨?_, ?_, ?_, ?_, ?_, ?_, ?_, ?_, ?_, ?_, ?_, ?_, ?_, ?_, ?_, ?_⟩ <;> omega), md_inw_cong i1.2 hw2 (fun i _ => jk_set_ne _ _ (by omega)), md_inx_cong hi hx (fun i _ => jk_set_ne _ _ (by omega)), md_zf_set hz ⟨by omega, by omega⟩, ?_⟩
  refine md_unu_cong hu ?_ ?_ ?_ (fun p hp => ?_) (fun l hl => ?_) (fun q hq => ?_)
  all_goals simp only [jk_set] at *
  all_goals grind
theorem md_all_run {B : Int} {g : Int → Int} (h : md_all B g) {l b : Int} (hl : 0 ≤ l ∧ l < g 1) (hb : -9999 ≤ b ∧ b ≤ 9999) : md_all B (md_runG g l b) := by
  obtain ⟨hi, hw2, hx, hz, hu⟩ := h
  obtain ⟨i0, i1, i2, -⟩ := id hi
  unfold md_runG
  refine ⟨md_inv_set (md_inv_set hi (by unfold md_bx; refine ⟨?_, ?_, ?_, ?_, ?_, ?_, ?_, ?_, ?_, ?_, ?_, ?_, ?_, ?_, ?_, ?_⟩ <;> omega)) (by unfold md_bx; refine ⟨?_, ?_, ?_, ?_, ?_, ?_, ?_, ?_, ?_, ?_, ?_, ?_, ?_, ?_, ?_, ?_⟩ <;> omega), md_inw_cong i1.2 hw2 (fun i _ => by rw [jk_set_ne _ _ (by omega), jk_set_ne _ _ (by omega)]), md_inx_cong hi hx (fun i _ => by rw [jk_set_ne _ _ (by omega), jk_set_ne _ _ (by omega)]), md_zf_set (md_zf_set hz ⟨by omega, by omega⟩) ⟨by omega, by omega⟩, ?_⟩
  refine md_unu_cong hu ?_ ?_ ?_ (fun p hp => ?_) (fun l hl => ?_) (fun q hq => ?_)
  all_goals simp only [jk_set] at *
  all_goals grind
theorem md_all_clr {B : Int} {g : Int → Int} (h : md_all B g) : md_all B (md_clr g (g 1)) := by
  obtain ⟨hi, hw2, hx, hz, hu⟩ := h
  obtain ⟨i0, i1, i2, -⟩ := id hi
  have hB := hi.2.2.2.2.2.2.1
  refine ⟨md_of_bx hB (fun i => ?_), md_inw_cong i1.2 hw2 (fun i _ => if_neg (by omega)), md_inx_cong hi hx (fun i _ => if_neg (by omega)), fun p hp => (if_neg (by omega)).trans (hz p hp), ?_⟩
  · unfold md_clr
    split
    · exact (by unfold md_bx; refine ⟨?_, ?_, ?_, ?_, ?_, ?_, ?_, ?_, ?_, ?_, ?_, ?_, ?_, ?_, ?_, ?_⟩ <;> omega)
    · exact md_bx_of hi i
  refine md_unu_cong hu ?_ ?_ ?_ (fun p hp => ?_) (fun l hl => ?_) (fun q hq => ?_)
  all_goals simp only [md_clr] at *
  all_goals grind
theorem md_all_point {B : Int} {g : Int → Int} (h : md_all B g) (h0 : g 0 ≠ 10) : md_all B (jk_set g 0 (g 0 + 1)) := by
  obtain ⟨hi, hw2, hx, hz, hu⟩ := h
  obtain ⟨i0, i1, i2, -⟩ := id hi
  refine ⟨md_inv_set hi (by unfold md_bx; refine ⟨?_, ?_, ?_, ?_, ?_, ?_, ?_, ?_, ?_, ?_, ?_, ?_, ?_, ?_, ?_, ?_⟩ <;> omega), fun l hl => ?_, md_inx_cong hi hx (fun i _ => jk_set_ne _ _ (by omega)), md_zf_set hz ⟨by omega, by omega⟩, ?_⟩
  · rw [jk_set_ne _ _ (by omega)] at hl
    have := hw2 l hl
    rw [jk_set_ne _ _ (by omega), jk_set_ne _ _ (by omega), jk_set_at, jk_set_ne _ _ (by omega)]
    omega
  refine md_unu_cong hu ?_ ?_ ?_ (fun p hp => ?_) (fun l hl => ?_) (fun q hq => ?_)
  all_goals simp only [jk_set] at *
  all_goals grind
theorem md_all_line {B : Int} {g : Int → Int} (h : md_all B g) {a b f len : Int} (ha : 0 ≤ a ∧ a < g 0) (hb : 0 ≤ b ∧ b < g 0) (hab : a ≠ b) (hf : -9999 ≤ f ∧ f ≤ 9999) (hlen : 1 ≤ len ∧ len ≤ 50) (h1 : g 1 ≠ 16) : md_all B (jk_set (jk_set (jk_set (jk_set (jk_set g (24 + g 1) a) (40 + g 1) b) (72 + g 1) f) (56 + g 1) len) 1 (g 1 + 1)) := by
  obtain ⟨hi, hw2, hx, hz, hu⟩ := h
  obtain ⟨i0, i1, i2, -⟩ := id hi
  have hi9 := md_inv_set (md_inv_set (md_inv_set (md_inv_set (md_inv_set hi (i := 24 + g 1) (v := a) (by unfold md_bx; refine ⟨?_, ?_, ?_, ?_, ?_, ?_, ?_, ?_, ?_, ?_, ?_, ?_, ?_, ?_, ?_, ?_⟩ <;> omega)) (i := 40 + g 1) (v := b) (by unfold md_bx; refine ⟨?_, ?_, ?_, ?_, ?_, ?_, ?_, ?_, ?_, ?_, ?_, ?_, ?_, ?_, ?_, ?_⟩ <;> omega)) (i := 72 + g 1) (v := f) (by unfold md_bx; refine ⟨?_, ?_, ?_, ?_, ?_, ?_, ?_, ?_, ?_, ?_, ?_, ?_, ?_, ?_, ?_, ?_⟩ <;> omega)) (i := 56 + g 1) (v := len) (by unfold md_bx; refine ⟨?_, ?_, ?_, ?_, ?_, ?_, ?_, ?_, ?_, ?_, ?_, ?_, ?_, ?_, ?_, ?_⟩ <;> omega)) (i := 1) (v := g 1 + 1) (by unfold md_bx; refine ⟨?_, ?_, ?_, ?_, ?_, ?_, ?_, ?_, ?_, ?_, ?_, ?_, ?_, ?_, ?_, ?_⟩ <;> omega)
  have hz9 := md_zf_set (md_zf_set (md_zf_set (md_zf_set (md_zf_set hz (i := 24 + g 1) (v := a) ⟨by omega, by omega⟩) (i := 40 + g 1) (v := b) ⟨by omega, by omega⟩) (i := 72 + g 1) (v := f) ⟨by omega, by omega⟩) (i := 56 + g 1) (v := len) ⟨by omega, by omega⟩) (i := 1) (v := g 1 + 1) ⟨by omega, by omega⟩
  have e0 : ∀ j, j ≠ 24 + g 1 → j ≠ 40 + g 1 → j ≠ 72 + g 1 → j ≠ 56 + g 1 → j ≠ 1 → jk_set (jk_set (jk_set (jk_set (jk_set g (24 + g 1) a) (40 + g 1) b) (72 + g 1) f) (56 + g 1) len) 1 (g 1 + 1) j = g j := fun j j1 j2 j3 j4 j5 => by rw [jk_set_ne _ _ j5, jk_set_ne _ _ j4, jk_set_ne _ _ j3, jk_set_ne _ _ j2, jk_set_ne _ _ j1]
  have e1 : jk_set (jk_set (jk_set (jk_set (jk_set g (24 + g 1) a) (40 + g 1) b) (72 + g 1) f) (56 + g 1) len) 1 (g 1 + 1) 1 = g 1 + 1 := by rw [jk_set_at]
  have e2 : jk_set (jk_set (jk_set (jk_set (jk_set g (24 + g 1) a) (40 + g 1) b) (72 + g 1) f) (56 + g 1) len) 1 (g 1 + 1) (24 + g 1) = a := by rw [jk_set_ne _ _ (by omega), jk_set_ne _ _ (by omega), jk_set_ne _ _ (by omega), jk_set_ne _ _ (by omega), jk_set_at]
  have e3 : jk_set (jk_set (jk_set (jk_set (jk_set g (24 + g 1) a) (40 + g 1) b) (72 + g 1) f) (56 + g 1) len) 1 (g 1 + 1) (40 + g 1) = b := by rw [jk_set_ne _ _ (by omega), jk_set_ne _ _ (by omega), jk_set_ne _ _ (by omega), jk_set_at]
  have e4 : jk_set (jk_set (jk_set (jk_set (jk_set g (24 + g 1) a) (40 + g 1) b) (72 + g 1) f) (56 + g 1) len) 1 (g 1 + 1) (56 + g 1) = len := by rw [jk_set_ne _ _ (by omega), jk_set_at]
  generalize jk_set (jk_set (jk_set (jk_set (jk_set g (24 + g 1) a) (40 + g 1) b) (72 + g 1) f) (56 + g 1) len) 1 (g 1 + 1) = r at *
  have r0 := e0 0 (by omega) (by omega) (by omega) (by omega) (by omega)
  have r2 := e0 2 (by omega) (by omega) (by omega) (by omega) (by omega)
  refine ⟨hi9, fun l hl => ?_, md_inx_cong hi hx (fun i _ => e0 i (by omega) (by omega) (by omega) (by omega) (by omega)), hz9, ?_⟩
  · by_cases hl2 : l = g 1
    · rw [hl2, e2, e3, e4, r0]; exact ⟨by omega, by omega, by omega, hab⟩
    · have h3 := hw2 l ⟨hl.1, by omega⟩
      rw [e0 (56 + l) (by omega) (by omega) (by omega) (by omega) (by omega), e0 (24 + l) (by omega) (by omega) (by omega) (by omega) (by omega), e0 (40 + l) (by omega) (by omega) (by omega) (by omega) (by omega), r0]
      exact h3
  · refine md_unu_cong hu (by omega) (by omega) (by omega) (fun p hp => e0 _ (by omega) (by omega) (by omega) (by omega) (by omega)) (fun l hl => ⟨e0 _ (by omega) (by omega) (by omega) (by omega) (by omega), e0 _ (by omega) (by omega) (by omega) (by omega) (by omega), Or.inl (e0 _ (by omega) (by omega) (by omega) (by omega) (by omega))⟩) (fun q hq => e0 _ (by omega) (by omega) (by omega) (by omega) (by omega))
theorem md_all_prof {B : Int} {g : Int → Int} (h : md_all B g) {p : Int} (hp : 0 ≤ p ∧ p < g 0) (h2 : g 2 ≠ 4) : md_all B (jk_set (jk_set g (152 + g 2) p) 2 (g 2 + 1)) := by
  obtain ⟨hi, hw2, hx, hz, hu⟩ := h
  obtain ⟨i0, i1, i2, -⟩ := id hi
  refine ⟨md_inv_set (md_inv_set hi (by unfold md_bx; refine ⟨?_, ?_, ?_, ?_, ?_, ?_, ?_, ?_, ?_, ?_, ?_, ?_, ?_, ?_, ?_, ?_⟩ <;> omega)) (by unfold md_bx; refine ⟨?_, ?_, ?_, ?_, ?_, ?_, ?_, ?_, ?_, ?_, ?_, ?_, ?_, ?_, ?_, ?_⟩ <;> omega), md_inw_cong i1.2 hw2 (fun i _ => by rw [jk_set_ne _ _ (by omega), jk_set_ne _ _ (by omega)]), fun q hq => ?_, md_zf_set (md_zf_set hz ⟨by omega, by omega⟩) ⟨by omega, by omega⟩, ?_⟩
  · rw [jk_set_at] at hq
    have e1 : jk_set (jk_set g (152 + g 2) p) 2 (g 2 + 1) (156 + q) = g (156 + q) := by rw [jk_set_ne _ _ (by omega), jk_set_ne _ _ (by omega)]
    rw [e1]
    by_cases hq2 : q = g 2
    · have := hu.2.2 q ⟨by omega, by omega⟩
      exact ⟨fun s hs => absurd hs (by omega), fun s hs => absurd hs (by omega)⟩
    · have h3 := hx q ⟨hq.1, by omega⟩
      refine ⟨fun s hs => ?_, fun s hs => ?_⟩
      · have h4 := h3.1 s hs
        unfold md_Ds at h4 ⊢
        rw [jk_set_ne _ _ (by omega), jk_set_ne _ _ (by omega)]; exact h4
      · have h4 := h3.2 s hs
        unfold md_Ds at h4 ⊢
        rw [jk_set_ne _ _ (by omega), jk_set_ne _ _ (by omega), jk_set_ne _ _ (by omega), jk_set_ne _ _ (by omega)]; exact h4
  refine md_unu_cong hu ?_ ?_ ?_ (fun p hp => ?_) (fun l hl => ?_) (fun q hq => ?_)
  all_goals simp only [jk_set] at *
  all_goals grind
theorem md_all_stat {B : Int} {g : Int → Int} (h : md_all B g) {q d f : Int} (hq : 0 ≤ q ∧ q < g 2) (hd : 0 ≤ d ∧ d ≤ 99) (hf : -999 ≤ f ∧ f ≤ 999) (hn : ¬ (g (156 + q) = 10 ∨ (0 < g (156 + q) ∧ d ≤ g (160 + 10 * q + (g (156 + q) - 1))))) : md_all B (md_stG g q d f) := by
  obtain ⟨hi, hw2, hx, hz, hu⟩ := h
  obtain ⟨i0, i1, i2, -⟩ := id hi
  have hnb := (hi.2.2.2.2.2.2.2.1 q ⟨by omega, by omega⟩).1
  unfold md_stG
  generalize hn9 : g (156 + q) = k at *
  have hi9 := md_inv_set (md_inv_set (md_inv_set hi (i := 160 + 10 * q + k) (v := d) (by unfold md_bx; refine ⟨?_, ?_, ?_, ?_, ?_, ?_, ?_, ?_, ?_, ?_, ?_, ?_, ?_, ?_, ?_, ?_⟩ <;> omega)) (i := 200 + 10 * q + k) (v := f) (by unfold md_bx; refine ⟨?_, ?_, ?_, ?_, ?_, ?_, ?_, ?_, ?_, ?_, ?_, ?_, ?_, ?_, ?_, ?_⟩ <;> omega)) (i := 156 + q) (v := k + 1) (by unfold md_bx; refine ⟨?_, ?_, ?_, ?_, ?_, ?_, ?_, ?_, ?_, ?_, ?_, ?_, ?_, ?_, ?_, ?_⟩ <;> omega)
  have hz9 := md_zf_set (md_zf_set (md_zf_set hz (i := 160 + 10 * q + k) (v := d) ⟨by omega, by omega⟩) (i := 200 + 10 * q + k) (v := f) ⟨by omega, by omega⟩) (i := 156 + q) (v := k + 1) ⟨by omega, by omega⟩
  have e0 : ∀ j, j ≠ 160 + 10 * q + k → j ≠ 200 + 10 * q + k → j ≠ 156 + q → jk_set (jk_set (jk_set g (160 + 10 * q + k) d) (200 + 10 * q + k) f) (156 + q) (k + 1) j = g j := fun j j1 j2 j3 => by rw [jk_set_ne _ _ j3, jk_set_ne _ _ j2, jk_set_ne _ _ j1]
  have e1 : jk_set (jk_set (jk_set g (160 + 10 * q + k) d) (200 + 10 * q + k) f) (156 + q) (k + 1) (156 + q) = k + 1 := by rw [jk_set_at]
  have e2 : jk_set (jk_set (jk_set g (160 + 10 * q + k) d) (200 + 10 * q + k) f) (156 + q) (k + 1) (160 + 10 * q + k) = d := by rw [jk_set_ne _ _ (by omega), jk_set_ne _ _ (by omega), jk_set_at]
  generalize jk_set (jk_set (jk_set g (160 + 10 * q + k) d) (200 + 10 * q + k) f) (156 + q) (k + 1) = r at *
  have r2 := e0 2 (by omega) (by omega) (by omega)
  have r1 := e0 1 (by omega) (by omega) (by omega)
  have r0 := e0 0 (by omega) (by omega) (by omega)
  refine ⟨hi9, md_inw_cong i1.2 hw2 (fun i _ => e0 i (by omega) (by omega) (by omega)), fun q2 hq2 => ?_, hz9, ?_⟩
  · rw [r2] at hq2
    have h3 := hx q2 hq2
    have hnb2 := (hi.2.2.2.2.2.2.2.1 q2 ⟨by omega, by omega⟩).1
    unfold md_Ds at h3 ⊢
    by_cases hqq : q2 = q
    · subst hqq
      rw [e1]
      rw [hn9] at h3
      refine ⟨fun s hs => ?_, fun s hs => ?_⟩
      · by_cases hs2 : s = k
        · rw [hs2, e2]; exact hd
        · rw [e0 (160 + 10 * q2 + s) (by omega) (by omega) (by omega)]; exact h3.1 s ⟨hs.1, by omega⟩
      · rw [e0 (160 + 10 * q2 + s) (by omega) (by omega) (by omega)]
        by_cases hs2 : s + 1 = k
        · rw [hs2, e2, show s = k - 1 by omega]
          exact Int.not_le.mp (fun h => hn (Or.inr ⟨by omega, h⟩))
        · rw [e0 (160 + 10 * q2 + (s + 1)) (by omega) (by omega) (by omega)]; exact h3.2 s ⟨hs.1, by omega⟩
    · rw [e0 (156 + q2) (by omega) (by omega) (by omega)]
      refine ⟨fun s hs => ?_, fun s hs => ?_⟩
      · rw [e0 (160 + 10 * q2 + s) (by omega) (by omega) (by omega)]; exact h3.1 s hs
      · rw [e0 (160 + 10 * q2 + s) (by omega) (by omega) (by omega), e0 (160 + 10 * q2 + (s + 1)) (by omega) (by omega) (by omega)]; exact h3.2 s hs
  · refine md_unu_cong hu (by omega) (by omega) (by omega) (fun p hp => e0 _ (by omega) (by omega) (by omega)) (fun l hl => ⟨e0 _ (by omega) (by omega) (by omega), e0 _ (by omega) (by omega) (by omega), Or.inl (e0 _ (by omega) (by omega) (by omega))⟩) (fun q2 hq2 => e0 _ (by omega) (by omega) (by omega))
theorem md_p1_bd {B : Int} {g S : Int → Int} {e : Int} (hi : md_inv B g) (he : 0 ≤ e) (hlen : 0 < md_len g S) {l : Int} (hl : 0 ≤ l ∧ l < g 1) : 0 ≤ md_p1 g S e (md_len g S) l ∧ md_p1 g S e (md_len g S) l ≤ e + 1 := by
  obtain ⟨i0, i1, i2, -⟩ := id hi
  have hj := jB_01 (decide (md_rem g S l e (md_len g S) ≠ -1 ∧ md_ahead g S e (md_len g S) l (g 1).toNat < md_left g S e (md_len g S) 16))
  have h0 : 0 ≤ md_p0 g S e (md_len g S) l ∧ md_p0 g S e (md_len g S) l ≤ e := by
    unfold md_p0
    split
    · rename_i h
      have hl5 := (md_inv_ln hi (l := l) ⟨by omega, by omega⟩).2.2.1
      have h5 := jk_sum_ge (f := fun l => if S l = 0 then 0 else g (56 + l)) (i := l) (g 1).toNat (fun j j1 j2 => by
        have := (md_inv_ln hi (l := j) ⟨by omega, by omega⟩).2.2.1
        show 0 ≤ if S j = 0 then 0 else g (56 + j)
        split <;> omega) hl.1 (by omega)
      have h6 : g (56 + l) ≤ md_len g S := by
        have : (if S l = 0 then 0 else g (56 + l)) = g (56 + l) := if_neg h.2
        unfold md_len; omega
      exact ⟨Int.ediv_nonneg (Int.mul_nonneg he (by omega)) (by omega), Int.ediv_le_of_le_mul hlen (Int.mul_le_mul_of_nonneg_left h6 he)⟩
    · omega
  unfold md_p1
  omega
theorem md_all_shk {B : Int} {g : Int → Int} (h : md_all B g) (hB : B + 85 ≤ 1100000) {S P : Int → Int} {d : Int} (hd : d = 1 ∨ d = -1) (hS : md_sb S) (hP : ∀ l, 0 ≤ l ∧ l < g 1 → 0 ≤ P l ∧ P l ≤ 85) : md_all (B + 85) (md_shk g S P d (g 1)) := by
  obtain ⟨hi, hw2, hx, hz, hu⟩ := h
  obtain ⟨i0, i1, i2, -⟩ := id hi
  have hB0 := hi.2.2.2.2.2.2.1
  have h9 := md_inv_up hi (B2 := B + 85) (by omega) hB
  refine ⟨md_of_bx ⟨by omega, hB⟩ (fun i => ?_), md_inw_cong i1.2 hw2 (fun i _ => if_neg (by omega)), md_inx_cong hi hx (fun i _ => if_neg (by omega)), fun p hp => (if_neg (by omega)).trans (hz p hp), ?_⟩
  · unfold md_shk
    split
    · have h5 := (md_bx_of hi i).2.2.2.2.2.2.2.2.2.2.2.2.1 ⟨by omega, by omega⟩
      have h6 := hS (i - 136)
      have h7 := hP (i - 136) ⟨by omega, by omega⟩
      generalize P (i - 136) = y at *
      have h8 : -85 ≤ d * S (i - 136) * y ∧ d * S (i - 136) * y ≤ 85 := by
        rcases hd with hd | hd <;> (rcases (show S (i - 136) = -1 ∨ S (i - 136) = 0 ∨ S (i - 136) = 1 by omega) with h | h | h) <;> rw [hd, h] <;> omega
      exact (by unfold md_bx; refine ⟨?_, ?_, ?_, ?_, ?_, ?_, ?_, ?_, ?_, ?_, ?_, ?_, ?_, ?_, ?_, ?_⟩ <;> omega)
    · exact md_bx_of h9 i
  · refine md_unu_cong hu ?_ ?_ ?_ (fun p hp => ?_) (fun l hl => ?_) (fun q hq => ?_)
    all_goals simp only [md_shk] at *
    all_goals grind
theorem md_all_up {B B2 : Int} {g : Int → Int} (h : md_all B g) (h2 : B ≤ B2) (h3 : B2 ≤ 1100000) : md_all B2 g := ⟨md_inv_up h.1 h2 h3, h.2⟩
theorem md_inN {v a b : Int} (h : ¬ md_in v a b = false) : a ≤ v ∧ v ≤ b := md_inT (by cases e : md_in v a b with | true => rfl | false => exact absurd e h)
theorem md_all_points {B : Int} {g : Int → Int} (h : md_all B g) : md_all B (md_addsPoint g).2.2 := by
  unfold md_addsPoint; split
  · exact h
  · exact md_all_point h (by assumption)
theorem md_all_fixes {B : Int} {g : Int → Int} (h : md_all B g) (p v : Int) : md_all B (md_fixes g p v).2.2 := by
  unfold md_fixes; split
  · exact h
  · split
    · exact h
    · rename_i h1 h2
      have h3 := md_inN h1
      exact md_all_fix h ⟨by omega, by omega⟩ (md_inN h2)
theorem md_all_rels {B : Int} {g : Int → Int} (h : md_all B g) (p : Int) : md_all B (md_releases g p).2.2 := by
  unfold md_releases; split
  · exact h
  · split
    · exact h
    · rename_i h1 h2
      have h3 := md_inN h1
      exact md_all_rel h ⟨by omega, by omega⟩
theorem md_all_lines {B : Int} {g : Int → Int} (h : md_all B g) (a b f len : Int) : md_all B (md_addsLine g a b f len).2.2 := by
  unfold md_addsLine; split
  · exact h
  · split
    · exact h
    · split
      · exact h
      · rename_i h1 h2 h3
        have k1 := md_inN (fun e => h1 (Or.inl e))
        have k2 := md_inN (fun e => h1 (Or.inr e))
        exact md_all_line h ⟨by omega, by omega⟩ ⟨by omega, by omega⟩ (fun e => h2 (Or.inl e)) (md_inN (fun e => h2 (Or.inr (Or.inl e)))) (md_inN (fun e => h2 (Or.inr (Or.inr e)))) h3
theorem md_all_runs {B : Int} {g : Int → Int} (h : md_all B g) (l b : Int) : md_all B (md_addsRun g l b).2.2 := by
  unfold md_addsRun; split
  · exact h
  · split
    · exact h
    · split
      · exact h
      · rename_i h1 h2 h3
        have k1 := md_inN h1
        exact md_all_run h ⟨by omega, by omega⟩ (md_inN h2)
theorem md_all_marks {B : Int} {g : Int → Int} (h : md_all B g) (l w : Int) (hw : w = 0 ∨ w = 1) : md_all B (md_marks g l w).2.2 := by
  unfold md_marks; split
  · exact h
  · split
    · exact h
    · rename_i h1 h2
      have k1 := md_inN h1
      exact md_all_mark h ⟨by omega, by omega⟩ (by omega)
theorem md_all_profs {B : Int} {g : Int → Int} (h : md_all B g) (p : Int) : md_all B (md_addsProfile g p).2.2 := by
  unfold md_addsProfile; split
  · exact h
  · split
    · exact h
    · rename_i h1 h2
      have k1 := md_inN h1
      exact md_all_prof h ⟨by omega, by omega⟩ h2
theorem md_all_stats {B : Int} {g : Int → Int} (h : md_all B g) (q d f : Int) : md_all B (md_addsStation g q d f).2.2 := by
  unfold md_addsStation; split
  · exact h
  · split
    · exact h
    · split
      · exact h
      · rename_i h1 h2 h3
        have k1 := md_inN h1
        exact md_all_stat h ⟨by omega, by omega⟩ (md_inN (fun e => h2 (Or.inl e))) (md_inN (fun e => h2 (Or.inr e))) h3
theorem md_all_waters {B : Int} {g : Int → Int} (h : md_all B g) (w : Int) : md_all B (md_setsWater g w).2.2 := by
  unfold md_setsWater; split
  · exact h
  · rename_i h1
    exact md_all_water h (md_inN h1)
theorem md_all_shares {B : Int} {g : Int → Int} (h : md_all B g) (hB : B + 85 ≤ 1100000) (l : Int) : md_all (B + 85) (md_shares g l).2.2 := by
  unfold md_shares; split
  · exact md_all_up h (by omega) hB
  · split
    · exact md_all_up h (by omega) hB
    · rename_i h1 h2
      have h3 := md_inT (md_why0 (σ := fun _ _ => 0) (m := 0) h1).2.1
      have h4 := md_tol_bd (md_len g (md_sgn g (md_T g) l))
      have h5 : 0 ≤ md_abs (md_err g (md_sgn g (md_T g) l)) := by unfold md_abs; split <;> omega
      have i1 := h.1.2.1
      refine md_all_shk h hB (by unfold md_dir; split <;> omega) (md_sgn_sb _ _ _) (fun j hj => ?_)
      have h6 := md_p1_bd h.1 h5 (md_len_pos h.1 h.2.1 (T := md_T g) (l := l) ⟨by omega, by omega⟩) hj
      unfold md_parts
      rw [if_pos ⟨by omega, by omega⟩, if_pos hj.2]
      exact ⟨h6.1, by omega⟩
theorem md_all_do {B : Int} {g : Int → Int} (h : md_all B g) (hB : B + 85 ≤ 1100000) (P : Int → Int) (k : Int) : md_all (B + 85) (md_do P k g).2.2 := by
  have hu : ∀ {f}, md_all B f → md_all (B + 85) f := fun h => md_all_up h (by omega) hB
  unfold md_do
  (repeat' split)
  · exact hu (md_all_runs h _ _)
  · exact hu (md_all_marks h _ _ (Or.inl rfl))
  · exact hu (md_all_fixes h _ _)
  · exact md_all_shares h hB _
  · exact hu (md_all_marks h _ _ (Or.inr rfl))
  · exact hu (md_all_lines h _ _ _ _)
  · exact hu (md_all_profs h _)
  · exact hu (md_all_points h)
  · exact hu (md_all_clr h)
  · exact hu (md_all_stats h _ _ _)
  · exact hu (md_all_rels h _)
  · exact hu (md_all_waters h _)
theorem md_all_gk {B : Int} {g : Int → Int} (h : md_all B g) (P : Int → Int) : ∀ k : Nat, B + 85 * (k : Int) ≤ 1100000 → md_all (B + 85 * (k : Int)) (md_gk P g k)
  | 0, _ => by
    rw [show B + 85 * ((0 : Nat) : Int) = B by omega]; exact h
  | k + 1, hB => by
    have h2 := md_all_do (md_all_gk h P k (by omega)) (by omega) P (5 * (k : Int))
    rw [show B + 85 * ((k + 1 : Nat) : Int) = B + 85 * (k : Int) + 85 by omega]; exact h2
/-- what runScript asks, from the invariant and the loops -/
theorem md_hall {B : Int} {g : Int → Int} (h : md_all B g) (hB : B + 2635 ≤ 1100000) (hL : ∀ f B, md_all B f → md_loops f) : ∀ P, md_pb P → ∀ k : Nat, k ≤ 31 → md_inv (B + 2635) (md_gk P g k) ∧ md_inw (md_gk P g k) ∧ md_loops (md_gk P g k) ∧ md_zf 240 (md_gk P g k) := fun P _ k hk => by
  have h2 := md_all_gk h P k (by omega)
  exact ⟨md_inv_up h2.1 (by omega) hB, h2.2.1, hL _ _ h2, h2.2.2.2.1⟩
theorem md_all_new : md_all 0 (fun _ => 0) := by
  refine ⟨md_of_bx (by omega) (fun i => (by unfold md_bx; refine ⟨?_, ?_, ?_, ?_, ?_, ?_, ?_, ?_, ?_, ?_, ?_, ?_, ?_, ?_, ?_, ?_⟩ <;> omega)), fun l hl => absurd hl (by simp only; omega), fun q hq => absurd hq (by simp only; omega), fun _ _ => rfl, fun _ _ => rfl, fun _ _ => ⟨rfl, rfl, rfl⟩, fun _ _ => rfl⟩
end MD28
