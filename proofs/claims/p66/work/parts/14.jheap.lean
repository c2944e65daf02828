section JH
variable {G : jk_G} {M : jk_M} {pc q : Nat} {ls : List (Option Value)} {st : List Value} {n : Nat} {t : jk_T} {σ σ' : jk_I} {ρ ρ' : jk_P} {rc rs : Nat} {Q : jk_Q} {X : jk_X}
def jk_up {α : Type} (f : Nat → Int → α) (a : Nat) (i : Int) (v : α) : Nat → Int → α := fun b j => if b = a ∧ j = i then v else f b j
def jk_zr {α : Type} (f : Nat → Int → α) (a : Nat) (v : α) : Nat → Int → α := fun b j => if b = a then v else f b j
def jk_tg (t : jk_T) (a : Nat) (g : (FieldType × Nat) ⊕ Nat) : jk_T := fun b => if b = a then some g else t b
theorem jk_up_same {α : Type} (f : Nat → Int → α) (a : Nat) (i : Int) (v : α) : jk_up f a i v a i = v := if_pos ⟨rfl, rfl⟩
theorem jk_up_ne {α : Type} (f : Nat → Int → α) {a b : Nat} {i j : Int} (v : α) (h : ¬ (b = a ∧ j = i)) : jk_up f a i v b j = f b j := if_neg h
theorem jk_up_row {α : Type} (f : Nat → Int → α) {a b : Nat} (i : Int) (v : α) (h : b ≠ a) : jk_up f a i v b = f b := funext fun _ => if_neg (fun q => h q.1)
theorem jk_zr_row {α : Type} (f : Nat → Int → α) {a b : Nat} (v : α) (h : b ≠ a) : jk_zr f a v b = f b := funext fun _ => if_neg h
theorem jk_ad_even {a : Nat} (h6 : 64 ≤ a) (he : a % 2 = 0) : jk_ad G a = jk_b G + (a - 64) / 2 := by
  unfold jk_ad
  rw [if_neg (by omega), if_pos he]
theorem jk_ad_ne {a b : Nat} (h6 : 64 ≤ a) (he : a % 2 = 0) (h6b : 64 ≤ b) (heb : b % 2 = 0) (h : b ≠ a) : jk_ad G b ≠ jk_ad G a := by
  rw [jk_ad_even h6 he, jk_ad_even h6b heb]; omega
theorem jk_ad_A {a : Nat} (h6 : 64 ≤ a) (he : a % 2 = 0) : jk_A G (jk_ad G a) := by
  rw [jk_ad_even h6 he]; exact Nat.le_add_right _ _
theorem jk_cell_kept {U : State} {H H' : Heap} {n n' b : Nat} {g : Option ((FieldType × Nat) ⊕ Nat)} {s : Int → Int} {r : Int → Option Nat} (h : jk_cell G U H n b g s r) (hn : n ≤ n') (hk : 64 ≤ b → b < n → b % 2 = 0 → H'[jk_ad G b]? = H[jk_ad G b]?) : jk_cell G U H' n' b g s r := by
  match g, h with
  | none, _ => trivial
  | some (.inl (ty, len)), ⟨h1, h2, h3, h4, cA, h5, h6⟩ => exact ⟨h1, Nat.lt_of_lt_of_le h2 hn, h3, h4, cA, (hk h1 h2 h3).trans h5, h6⟩
  | some (.inr k), ⟨h1, h2, h3, cC, iS, h4, h5⟩ => exact ⟨h1, Nat.lt_of_lt_of_le h2 hn, h3, cC, iS, h4, h5.kept (hk h1 h2 h3)⟩
theorem jk_cell_moved {u U : State} (hvm : u.vm.Alike U.vm) {H : Heap} {n b : Nat} {g : Option ((FieldType × Nat) ⊕ Nat)} {s : Int → Int} {r : Int → Option Nat} (h : jk_cell G u H n b g s r) : jk_cell G U H n b g s r := by
  match g, h with
  | none, _ => trivial
  | some (.inl (ty, len)), ⟨h1, h2, h3, h4, cA, h5, h6, h7⟩ => exact ⟨h1, h2, h3, h4, cA, h5, arrOfT_moved hvm h6, h7.moved hvm⟩
  | some (.inr k), ⟨h1, h2, h3, cC, iS, h4, h5⟩ => exact ⟨h1, h2, h3, cC, iS, u_Kn_moved hvm h4, h5⟩
theorem jk_R_moved {u U : State} (hvm : u.vm.Alike U.vm) {H : Heap} (h : jk_R G u H n t σ ρ) : jk_R G U H n t σ ρ := ⟨h.1, h.2.1, h.2.2.1, fun a => jk_cell_moved hvm (h.2.2.2 a)⟩
theorem jk_R_set {U : State} {H H' : Heap} {a : Nat} (hR : jk_R G U H n t σ ρ) (hz : H'.size = H.size) (hq : ∀ q, q ≠ jk_ad G a → H'[q]? = H[q]?) (h6 : 64 ≤ a) (he : a % 2 = 0) (ha : jk_cell G U H' n a (t a) (σ' a) (ρ' a)) (hσ : ∀ b, b ≠ a → σ' b = σ b) (hρ : ∀ b, b ≠ a → ρ' b = ρ b) : jk_R G U H' n t σ' ρ' := by
  refine ⟨hR.1, hR.2.1, hz.trans hR.2.2.1, fun b => ?_⟩
  by_cases hb : b = a
  · subst hb; exact ha
  · rw [hσ b hb, hρ b hb]
    exact jk_cell_kept (hR.2.2.2 b) (Nat.le_refl _) (fun h6b _ heb => hq _ (jk_ad_ne h6 he h6b heb hb))
theorem jk_R_push {U : State} {H H' : Heap} {g : (FieldType × Nat) ⊕ Nat} (hR : jk_R G U H n t σ ρ) (hz : H'.size = H.size + 1) (hq : ∀ q, q < H.size → H'[q]? = H[q]?) (ha : jk_cell G U H' (n + 2) n (some g) (σ' n) (ρ' n)) (hσ : ∀ b, b ≠ n → σ' b = σ b) (hρ : ∀ b, b ≠ n → ρ' b = ρ b) : jk_R G U H' (n + 2) (jk_tg t n g) σ' ρ' := by
  obtain ⟨h1, h2, h3, h4⟩ := hR
  refine ⟨by omega, by omega, by omega, fun b => ?_⟩
  by_cases hb : b = n
  · subst hb; show jk_cell G U H' _ _ (if _ then _ else _) _ _; rw [if_pos rfl]; exact ha
  · rw [hσ b hb, hρ b hb]; show jk_cell G U H' _ _ (if _ then _ else _) _ _; rw [if_neg hb]
    exact jk_cell_kept (h4 b) (by omega) (fun h6b hbn heb => hq _ (by rw [jk_ad_even h6b heb]; omega))
theorem jk_new_ad {U : State} {H : Heap} (hR : jk_R G U H n t σ ρ) : H.size = jk_ad G n := by
  rw [jk_ad_even hR.1 hR.2.1]; exact hR.2.2.1
def jk_V (ty : FieldType) (x : Int) (r : Option Nat) : Value := match ty with
  | .object _ => va_rf r
  | .array _ => va_rf r
  | .long => .long (Int64.ofInt x)
  | .double => .double (UInt64.ofNat x.toNat)
  | .float => .float (UInt32.ofNat x.toNat)
  | _ => .int (Int32.ofInt x)
theorem jk_rf (r : Option Nat) : jk_re G (va_rf r) = va_rf (r.map (jk_ad G)) := by cases r <;> rfl
theorem jk_reV (ty : FieldType) (x : Int) (r : Option Nat) : jk_re G (jk_V ty x r) = jk_E G ty x r := by
  cases ty <;> first | rfl | exact jk_rf r
theorem jk_clty (k i : Nat) (h : i < (jk_cl k).2.2.1) : parseFieldDescriptor ((jk_cl k).2.1 i).2.2.1 = some ((jk_cl k).2.2.2 i) := by
  revert h
  unfold jk_cl
  split <;> intro h <;> first | exact tyX1_ok i h | exact tyX2_ok i h | exact tyX3_ok i h | exact tyX4_ok i h | exact tyX5_ok i h | exact tyX7_ok i h | exact tyX8_ok i h | exact tyX9_ok i h | exact tyX11_ok i h | exact tyX12_ok i h | exact tyJ0_ok i h | exact tyJ4_ok i h
theorem jk_clnm (k : Nat) : ∀ a, a < (jk_cl k).2.2.1 → ∀ b, b < (jk_cl k).2.2.1 → a ≠ b → ((jk_cl k).2.1 a).2.1 ≠ ((jk_cl k).2.1 b).2.1 := by
  unfold jk_cl
  split <;> first | exact nmX1 | exact nmX2 | exact nmX3 | exact nmX4 | exact nmX5 | exact nmX7 | exact nmX8 | exact nmX9 | exact nmX11 | exact nmX12 | exact nmJ0 | exact nmJ4
theorem jk_get {a k i index : Nat} {v : Value} (ht : t a = some (.inr k)) (hi : i < (jk_cl k).2.2.1) (hv : jk_re G v = jk_E G ((jk_cl k).2.2.2 i) (σ a (i : Int)) (ρ a (i : Int))) (hw : Cond.fieldLink (jk_own M) index ((jk_cl k).2.1 i).1 ((jk_cl k).2.1 i).2.1 ((jk_cl k).2.1 i).2.2.1 ∈ jk_WS) (hd : decode (jk_cc M) pc = .ok (.getfield index, 3)) (hp : pc + 3 = q) (kk : jk_J G M q ls (v :: st) n t σ ρ rc rs Q X) : jk_J G M pc ls (.ref a :: st) n t σ ρ rc rs Q X := by
  subst hp
  intro p e R s m args below meth c H locs cells slots ls' C hl hR hS hc hs
  have hcell := hR.2.2.2 a
  rw [ht] at hcell
  obtain ⟨h6, han, hae, cC, iS, ⟨hF, hfc, kC, hkC, hkind⟩, cell, q1, q2, q3, q4⟩ := hcell
  obtain ⟨cf, kf, fi, f, hfi, hsl⟩ := hF i hi
  have hts := C.2.2.2.2.2.2.1
  refine W.getf C.1 C.2.1 C.2.2.2.2.2.1 (hts _ hw) hfi (u_facts hfc hkC (u_lays hts (jk_uw k) hi) hfi).1 q1 (by rw [q3]; exact fun h => by cases h) (v := jk_re G v) (by rw [hsl, q4 i hi, hv]) rfl rfl hd ?_
  exact kk p e R s m args below meth c H locs cells slots ls' C hl hR hS hc hs
theorem jk_getI {a k index : Nat} (i : Nat) (ii : Int) (hii : (i : Int) = ii) (ht : t a = some (.inr k)) (hi : Nat.blt i (jk_cl k).2.2.1 = true) (hy : jk_E G ((jk_cl k).2.2.2 i) = fun x _ => .int (Int32.ofInt x)) (hw : Cond.fieldLink (jk_own M) index ((jk_cl k).2.1 i).1 ((jk_cl k).2.1 i).2.1 ((jk_cl k).2.1 i).2.2.1 ∈ jk_WS) (hd : decode (jk_cc M) pc = .ok (.getfield index, 3)) (hp : pc + 3 = q) (kk : jk_J G M q ls (jI (σ a ii) :: st) n t σ ρ rc rs Q X) : jk_J G M pc ls (.ref a :: st) n t σ ρ rc rs Q X := by
  subst hii; exact jk_get ht (Nat.blt_eq.mp hi) (by rw [hy]; rfl) hw hd hp kk
theorem jk_getA {a k index b : Nat} (i : Nat) (ii : Int) (hii : (i : Int) = ii) (ht : t a = some (.inr k)) (hr : ρ a ii = some b) (hi : Nat.blt i (jk_cl k).2.2.1 = true) (hy : jk_E G ((jk_cl k).2.2.2 i) = fun _ r => va_rf (r.map (jk_ad G))) (hw : Cond.fieldLink (jk_own M) index ((jk_cl k).2.1 i).1 ((jk_cl k).2.1 i).2.1 ((jk_cl k).2.1 i).2.2.1 ∈ jk_WS) (hd : decode (jk_cc M) pc = .ok (.getfield index, 3)) (hp : pc + 3 = q) (kk : jk_J G M q ls (.ref b :: st) n t σ ρ rc rs Q X) : jk_J G M pc ls (.ref a :: st) n t σ ρ rc rs Q X := by
  subst hii; exact jk_get ht (Nat.blt_eq.mp hi) (by rw [hy, hr]; rfl) hw hd hp kk
theorem jk_getN {a k i index : Nat} {host : String} {v : Value} (ht : t a = some (.inr k)) (hi : i < (jk_cl k).2.2.1) (hv : jk_re G v = jk_E G ((jk_cl k).2.2.2 i) (σ a (i : Int)) (ρ a (i : Int))) (hw : Cond.fieldLinkNest (jk_own M) index ((jk_cl k).2.1 i).1 ((jk_cl k).2.1 i).2.1 ((jk_cl k).2.1 i).2.2.1 host ∈ jk_WS) (hd : decode (jk_cc M) pc = .ok (.getfield index, 3)) (hp : pc + 3 = q) (kk : jk_J G M q ls (v :: st) n t σ ρ rc rs Q X) : jk_J G M pc ls (.ref a :: st) n t σ ρ rc rs Q X := by
  subst hp
  intro p e R s m args below meth c H locs cells slots ls' C hl hR hS hc hs
  have hcell := hR.2.2.2 a
  rw [ht] at hcell
  obtain ⟨h6, han, hae, cC, iS, ⟨hF, hfc, kC, hkC, hkind⟩, cell, q1, q2, q3, q4⟩ := hcell
  obtain ⟨cf, kf, fi, f, hfi, hsl⟩ := hF i hi
  have hts := C.2.2.2.2.2.2.1
  refine va_Wgetf C.1 C.2.1 C.2.2.2.2.2.1 (hts _ hw) hfi (u_facts hfc hkC (u_lays hts (jk_uw k) hi) hfi).1 q1 (by rw [q3]; exact fun h => by cases h) (v := jk_re G v) (by rw [hsl, q4 i hi, hv]) rfl rfl hd ?_
  exact kk p e R s m args below meth c H locs cells slots ls' C hl hR hS hc hs
theorem jk_getIN {a k index : Nat} {host : String} (i : Nat) (ii : Int) (hii : (i : Int) = ii) (ht : t a = some (.inr k)) (hi : Nat.blt i (jk_cl k).2.2.1 = true) (hy : jk_E G ((jk_cl k).2.2.2 i) = fun x _ => .int (Int32.ofInt x)) (hw : Cond.fieldLinkNest (jk_own M) index ((jk_cl k).2.1 i).1 ((jk_cl k).2.1 i).2.1 ((jk_cl k).2.1 i).2.2.1 host ∈ jk_WS) (hd : decode (jk_cc M) pc = .ok (.getfield index, 3)) (hp : pc + 3 = q) (kk : jk_J G M q ls (jI (σ a ii) :: st) n t σ ρ rc rs Q X) : jk_J G M pc ls (.ref a :: st) n t σ ρ rc rs Q X := by
  subst hii; exact jk_getN ht (Nat.blt_eq.mp hi) (by rw [hy]; rfl) hw hd hp kk
theorem jk_getAN {a k index b : Nat} {host : String} (i : Nat) (ii : Int) (hii : (i : Int) = ii) (ht : t a = some (.inr k)) (hr : ρ a ii = some b) (hi : Nat.blt i (jk_cl k).2.2.1 = true) (hy : jk_E G ((jk_cl k).2.2.2 i) = fun _ r => va_rf (r.map (jk_ad G))) (hw : Cond.fieldLinkNest (jk_own M) index ((jk_cl k).2.1 i).1 ((jk_cl k).2.1 i).2.1 ((jk_cl k).2.1 i).2.2.1 host ∈ jk_WS) (hd : decode (jk_cc M) pc = .ok (.getfield index, 3)) (hp : pc + 3 = q) (kk : jk_J G M q ls (.ref b :: st) n t σ ρ rc rs Q X) : jk_J G M pc ls (.ref a :: st) n t σ ρ rc rs Q X := by
  subst hii; exact jk_getN ht (Nat.blt_eq.mp hi) (by rw [hy, hr]; rfl) hw hd hp kk
theorem jk_put {a k i index : Nat} {v : Value} (ht : t a = some (.inr k)) (hi : i < (jk_cl k).2.2.1) (hfin : ((jk_cl k).2.1 i).2.2.2 = false) (hn : narrow ((jk_cl k).2.2.2 i) (jk_re G v) = jk_re G v) (hfit : fits ((jk_cl k).2.2.2 i) (jk_re G v) = true)
    (hv : jk_E G ((jk_cl k).2.2.2 i) (σ' a (i : Int)) (ρ' a (i : Int)) = jk_re G v) (hσ : ∀ b (j : Int), ¬ (b = a ∧ j = (i : Int)) → σ' b j = σ b j) (hρ : ∀ b (j : Int), ¬ (b = a ∧ j = (i : Int)) → ρ' b j = ρ b j) (hw : Cond.fieldLink (jk_own M) index ((jk_cl k).2.1 i).1 ((jk_cl k).2.1 i).2.1 ((jk_cl k).2.1 i).2.2.1 ∈ jk_WS) (hd : decode (jk_cc M) pc = .ok (.putfield index, 3)) (hp : pc + 3 = q) (kk : jk_J G M q ls st n t σ' ρ' rc rs Q X) : jk_J G M pc ls (v :: .ref a :: st) n t σ ρ rc rs Q X := by
  subst hp
  intro p e R s m args below meth c H locs cells slots ls' C hl hR hS hc hs
  have hcell := hR.2.2.2 a
  rw [ht] at hcell
  obtain ⟨h6, han, hae, cC, iS, hK, cell, q1, q2, q3, q4⟩ := hcell
  have hts := C.2.2.2.2.2.2.1
  have hap : ∀ x y, x < (jk_cl k).2.2.1 → y < (jk_cl k).2.2.1 → x ≠ y → iS x ≠ iS y :=
    va_apart (own := jk_own M) (ci := 0) (cl := [((jk_cl k).1, (jk_cl k).2.1, (jk_cl k).2.2.1)]) (tys := []) (D := (fun _ => cC, fun _ => iS)) hts (jk_uw k) (jk_cl k).2.2.2 (jk_clty k) (jk_clnm k) ⟨fun c q hq => by
      match c, hq with
      | 0, hq => cases hq; exact hK, fun k q h => by simp at h⟩ rfl
  obtain ⟨hF, hfc, kC, hkC, hkind⟩ := id hK
  obtain ⟨cf, kf, fi, f, hfi, hsl⟩ := hF i hi
  have hlay := hts _ (jk_uw k _ (u_in_lay hi))
  unfold u_lay at hlay
  rw [if_neg (by rw [hfin]; decide)] at hlay
  have hst := (u_facts hfc hkC (u_lays hts (jk_uw k) hi) hfi).1
  have h6' := u_store hfc hkC hkind hlay hfi (jk_clty k i hi) hn hfit
  refine W.putK C.1 C.2.1 (f := f) ⟨C.2.2.2.2.2.1, hts _ hw, ⟨_, _, _, hfi⟩, hst⟩ (by rw [q2]; exact h6') q1 q3 (by rw [hsl]; exact k2_hasslot (q4 i hi)) rfl rfl hd fun H' e1 e2 e3 => ?_
  rw [hsl] at e1 ⊢
  refine kk p e R s m args below meth c H' _ cells slots ls' C hl (jk_R_set hR e2 e3 h6 hae ?_ (fun b hb => funext fun j => hσ b j (fun h => hb h.1)) (fun b hb => funext fun j => hρ b j (fun h => hb h.1))) (hS.put e2 e3 (jk_ad_A h6 hae)) hc hs
  rw [ht]
  refine ⟨h6, han, hae, cC, iS, hK, t_OB.to (V := updV (fun j => jk_E G ((jk_cl k).2.2.2 j) (σ a (j : Int)) (ρ a (j : Int))) i (jk_re G v)) ⟨_, e1, q2, q3, t_set q4 hap hi (jk_re G v)⟩ (fun j hj => ?_)⟩
  by_cases hji : j = i
  · subst hji; simp [updV, hv]
  · simp only [updV]; rw [if_neg hji, hσ a j (fun h => hji (Int.ofNat.inj h.2)), hρ a j (fun h => hji (Int.ofNat.inj h.2))]
theorem jk_putI {a k index : Nat} {x : Int} (i : Nat) (ii : Int) (hii : (i : Int) = ii) (ht : t a = some (.inr k)) (hi : Nat.blt i (jk_cl k).2.2.1 = true) (hfin : ((jk_cl k).2.1 i).2.2.2 = false) (hy : (jk_cl k).2.2.2 i = .int) (hw : Cond.fieldLink (jk_own M) index ((jk_cl k).2.1 i).1 ((jk_cl k).2.1 i).2.1 ((jk_cl k).2.1 i).2.2.1 ∈ jk_WS) (hd : decode (jk_cc M) pc = .ok (.putfield index, 3)) (hp : pc + 3 = q) (kk : jk_J G M q ls st n t (jk_up σ a ii x) ρ rc rs Q X) : jk_J G M pc ls (jI x :: .ref a :: st) n t σ ρ rc rs Q X := by
  subst hii; exact jk_put ht (Nat.blt_eq.mp hi) hfin (by rw [hy]; rfl) (by rw [hy]; rfl) (by rw [hy, jk_up_same]; rfl) (fun b j h => jk_up_ne σ x h) (fun _ _ _ => rfl) hw hd hp kk
theorem jk_putZ {a k index : Nat} {x : Int} (i : Nat) (ii : Int) (hii : (i : Int) = ii) (ht : t a = some (.inr k)) (hi : Nat.blt i (jk_cl k).2.2.1 = true) (hfin : ((jk_cl k).2.1 i).2.2.2 = false) (hy : (jk_cl k).2.2.2 i = .boolean) (hx : x = 0 ∨ x = 1) (hw : Cond.fieldLink (jk_own M) index ((jk_cl k).2.1 i).1 ((jk_cl k).2.1 i).2.1 ((jk_cl k).2.1 i).2.2.1 ∈ jk_WS) (hd : decode (jk_cc M) pc = .ok (.putfield index, 3)) (hp : pc + 3 = q) (kk : jk_J G M q ls st n t (jk_up σ a ii x) ρ rc rs Q X) : jk_J G M pc ls (jI x :: .ref a :: st) n t σ ρ rc rs Q X := by
  subst hii; exact jk_put ht (Nat.blt_eq.mp hi) hfin (by rw [hy]; rcases hx with rfl | rfl <;> rfl) (by rw [hy]; rcases hx with rfl | rfl <;> rfl) (by rw [hy, jk_up_same]; rfl) (fun b j h => jk_up_ne σ x h) (fun _ _ _ => rfl) hw hd hp kk
theorem jk_putA {a k index v : Nat} (i : Nat) (ii : Int) (hii : (i : Int) = ii) (ht : t a = some (.inr k)) (hi : Nat.blt i (jk_cl k).2.2.1 = true) (hfin : ((jk_cl k).2.1 i).2.2.2 = false) (hy : (∃ c, (jk_cl k).2.2.2 i = .object c) ∨ ∃ c, (jk_cl k).2.2.2 i = .array c) (hw : Cond.fieldLink (jk_own M) index ((jk_cl k).2.1 i).1 ((jk_cl k).2.1 i).2.1 ((jk_cl k).2.1 i).2.2.1 ∈ jk_WS) (hd : decode (jk_cc M) pc = .ok (.putfield index, 3)) (hp : pc + 3 = q) (kk : jk_J G M q ls st n t σ (jk_up ρ a ii (some v)) rc rs Q X) : jk_J G M pc ls (.ref v :: .ref a :: st) n t σ ρ rc rs Q X := by
  subst hii; exact jk_put ht (Nat.blt_eq.mp hi) hfin (by rcases hy with ⟨c, hy⟩ | ⟨c, hy⟩ <;> rw [hy] <;> rfl) (by rcases hy with ⟨c, hy⟩ | ⟨c, hy⟩ <;> rw [hy] <;> rfl) (by rcases hy with ⟨c, hy⟩ | ⟨c, hy⟩ <;> rw [hy, jk_up_same] <;> rfl) (fun _ _ _ => rfl) (fun b j h => jk_up_ne ρ (some v) h) hw hd hp kk
theorem jk_putN {a k i index : Nat} {host : String} {v : Value} (ht : t a = some (.inr k)) (hi : i < (jk_cl k).2.2.1) (hfin : ((jk_cl k).2.1 i).2.2.2 = false) (hn : narrow ((jk_cl k).2.2.2 i) (jk_re G v) = jk_re G v) (hfit : fits ((jk_cl k).2.2.2 i) (jk_re G v) = true)
    (hv : jk_E G ((jk_cl k).2.2.2 i) (σ' a (i : Int)) (ρ' a (i : Int)) = jk_re G v) (hσ : ∀ b (j : Int), ¬ (b = a ∧ j = (i : Int)) → σ' b j = σ b j) (hρ : ∀ b (j : Int), ¬ (b = a ∧ j = (i : Int)) → ρ' b j = ρ b j) (hw : Cond.fieldLinkNest (jk_own M) index ((jk_cl k).2.1 i).1 ((jk_cl k).2.1 i).2.1 ((jk_cl k).2.1 i).2.2.1 host ∈ jk_WS) (hd : decode (jk_cc M) pc = .ok (.putfield index, 3)) (hp : pc + 3 = q) (kk : jk_J G M q ls st n t σ' ρ' rc rs Q X) : jk_J G M pc ls (v :: .ref a :: st) n t σ ρ rc rs Q X := by
  subst hp
  intro p e R s m args below meth c H locs cells slots ls' C hl hR hS hc hs
  have hcell := hR.2.2.2 a
  rw [ht] at hcell
  obtain ⟨h6, han, hae, cC, iS, hK, cell, q1, q2, q3, q4⟩ := hcell
  have hts := C.2.2.2.2.2.2.1
  have hap : ∀ x y, x < (jk_cl k).2.2.1 → y < (jk_cl k).2.2.1 → x ≠ y → iS x ≠ iS y :=
    va_apart (own := jk_own M) (ci := 0) (cl := [((jk_cl k).1, (jk_cl k).2.1, (jk_cl k).2.2.1)]) (tys := []) (D := (fun _ => cC, fun _ => iS)) hts (jk_uw k) (jk_cl k).2.2.2 (jk_clty k) (jk_clnm k) ⟨fun c q hq => by
      match c, hq with
      | 0, hq => cases hq; exact hK, fun k q h => by simp at h⟩ rfl
  obtain ⟨hF, hfc, kC, hkC, hkind⟩ := id hK
  obtain ⟨cf, kf, fi, f, hfi, hsl⟩ := hF i hi
  have hlay := hts _ (jk_uw k _ (u_in_lay hi))
  unfold u_lay at hlay
  rw [if_neg (by rw [hfin]; decide)] at hlay
  have hst := (u_facts hfc hkC (u_lays hts (jk_uw k) hi) hfi).1
  have h6' := u_store hfc hkC hkind hlay hfi (jk_clty k i hi) hn hfit
  refine va_WputK C.1 C.2.1 (f := f) C.2.2.2.2.2.1 (hts _ hw) hfi hst (by rw [q2]; exact h6') q1 q3 (by rw [hsl]; exact k2_hasslot (q4 i hi)) rfl rfl hd fun H' e1 e2 e3 => ?_
  rw [hsl] at e1 ⊢
  refine kk p e R s m args below meth c H' _ cells slots ls' C hl (jk_R_set hR e2 e3 h6 hae ?_ (fun b hb => funext fun j => hσ b j (fun h => hb h.1)) (fun b hb => funext fun j => hρ b j (fun h => hb h.1))) (hS.put e2 e3 (jk_ad_A h6 hae)) hc hs
  rw [ht]
  refine ⟨h6, han, hae, cC, iS, hK, t_OB.to (V := updV (fun j => jk_E G ((jk_cl k).2.2.2 j) (σ a (j : Int)) (ρ a (j : Int))) i (jk_re G v)) ⟨_, e1, q2, q3, t_set q4 hap hi (jk_re G v)⟩ (fun j hj => ?_)⟩
  by_cases hji : j = i
  · subst hji; simp [updV, hv]
  · simp only [updV]; rw [if_neg hji, hσ a j (fun h => hji (Int.ofNat.inj h.2)), hρ a j (fun h => hji (Int.ofNat.inj h.2))]
theorem jk_putIN {a k index : Nat} {host : String} {x : Int} (i : Nat) (ii : Int) (hii : (i : Int) = ii) (ht : t a = some (.inr k)) (hi : Nat.blt i (jk_cl k).2.2.1 = true) (hfin : ((jk_cl k).2.1 i).2.2.2 = false) (hy : (jk_cl k).2.2.2 i = .int) (hw : Cond.fieldLinkNest (jk_own M) index ((jk_cl k).2.1 i).1 ((jk_cl k).2.1 i).2.1 ((jk_cl k).2.1 i).2.2.1 host ∈ jk_WS) (hd : decode (jk_cc M) pc = .ok (.putfield index, 3)) (hp : pc + 3 = q) (kk : jk_J G M q ls st n t (jk_up σ a ii x) ρ rc rs Q X) : jk_J G M pc ls (jI x :: .ref a :: st) n t σ ρ rc rs Q X := by
  subst hii; exact jk_putN ht (Nat.blt_eq.mp hi) hfin (by rw [hy]; rfl) (by rw [hy]; rfl) (by rw [hy, jk_up_same]; rfl) (fun b j h => jk_up_ne σ x h) (fun _ _ _ => rfl) hw hd hp kk
theorem jk_putZN {a k index : Nat} {host : String} {x : Int} (i : Nat) (ii : Int) (hii : (i : Int) = ii) (ht : t a = some (.inr k)) (hi : Nat.blt i (jk_cl k).2.2.1 = true) (hfin : ((jk_cl k).2.1 i).2.2.2 = false) (hy : (jk_cl k).2.2.2 i = .boolean) (hx : x = 0 ∨ x = 1) (hw : Cond.fieldLinkNest (jk_own M) index ((jk_cl k).2.1 i).1 ((jk_cl k).2.1 i).2.1 ((jk_cl k).2.1 i).2.2.1 host ∈ jk_WS) (hd : decode (jk_cc M) pc = .ok (.putfield index, 3)) (hp : pc + 3 = q) (kk : jk_J G M q ls st n t (jk_up σ a ii x) ρ rc rs Q X) : jk_J G M pc ls (jI x :: .ref a :: st) n t σ ρ rc rs Q X := by
  subst hii; exact jk_putN ht (Nat.blt_eq.mp hi) hfin (by rw [hy]; rcases hx with rfl | rfl <;> rfl) (by rw [hy]; rcases hx with rfl | rfl <;> rfl) (by rw [hy, jk_up_same]; rfl) (fun b j h => jk_up_ne σ x h) (fun _ _ _ => rfl) hw hd hp kk
theorem jk_putAN {a k index v : Nat} {host : String} (i : Nat) (ii : Int) (hii : (i : Int) = ii) (ht : t a = some (.inr k)) (hi : Nat.blt i (jk_cl k).2.2.1 = true) (hfin : ((jk_cl k).2.1 i).2.2.2 = false) (hy : (∃ c, (jk_cl k).2.2.2 i = .object c) ∨ ∃ c, (jk_cl k).2.2.2 i = .array c) (hw : Cond.fieldLinkNest (jk_own M) index ((jk_cl k).2.1 i).1 ((jk_cl k).2.1 i).2.1 ((jk_cl k).2.1 i).2.2.1 host ∈ jk_WS) (hd : decode (jk_cc M) pc = .ok (.putfield index, 3)) (hp : pc + 3 = q) (kk : jk_J G M q ls st n t σ (jk_up ρ a ii (some v)) rc rs Q X) : jk_J G M pc ls (.ref v :: .ref a :: st) n t σ ρ rc rs Q X := by
  subst hii; exact jk_putN ht (Nat.blt_eq.mp hi) hfin (by rcases hy with ⟨c, hy⟩ | ⟨c, hy⟩ <;> rw [hy] <;> rfl) (by rcases hy with ⟨c, hy⟩ | ⟨c, hy⟩ <;> rw [hy] <;> rfl) (by rcases hy with ⟨c, hy⟩ | ⟨c, hy⟩ <;> rw [hy, jk_up_same] <;> rfl) (fun _ _ _ => rfl) (fun b j h => jk_up_ne ρ (some v) h) hw hd hp kk
theorem jk_putF {a k i index : Nat} {v : Value} (ht : t a = some (.inr k)) (hi : i < (jk_cl k).2.2.1) (hfin : ((jk_cl k).2.1 i).2.2.2 = true) (hini : jk_ini M = true) (hdecl : ((jk_cl k).2.1 i).1 = jk_own M) (hn : narrow ((jk_cl k).2.2.2 i) (jk_re G v) = jk_re G v) (hfit : fits ((jk_cl k).2.2.2 i) (jk_re G v) = true)
    (hv : jk_E G ((jk_cl k).2.2.2 i) (σ' a (i : Int)) (ρ' a (i : Int)) = jk_re G v) (hσ : ∀ b (j : Int), ¬ (b = a ∧ j = (i : Int)) → σ' b j = σ b j) (hρ : ∀ b (j : Int), ¬ (b = a ∧ j = (i : Int)) → ρ' b j = ρ b j) (hw : Cond.fieldLink (jk_own M) index ((jk_cl k).2.1 i).1 ((jk_cl k).2.1 i).2.1 ((jk_cl k).2.1 i).2.2.1 ∈ jk_WS) (hd : decode (jk_cc M) pc = .ok (.putfield index, 3)) (hp : pc + 3 = q) (kk : jk_J G M q ls st n t σ' ρ' rc rs Q X) : jk_J G M pc ls (v :: .ref a :: st) n t σ ρ rc rs Q X := by
  subst hp
  intro p e R s m args below meth c H locs cells slots ls' C hl hR hS hc hs
  have hcell := hR.2.2.2 a
  rw [ht] at hcell
  obtain ⟨h6, han, hae, cC, iS, hK, cell, q1, q2, q3, q4⟩ := hcell
  have hts := C.2.2.2.2.2.2.1
  have hap : ∀ x y, x < (jk_cl k).2.2.1 → y < (jk_cl k).2.2.1 → x ≠ y → iS x ≠ iS y :=
    va_apart (own := jk_own M) (ci := 0) (cl := [((jk_cl k).1, (jk_cl k).2.1, (jk_cl k).2.2.1)]) (tys := []) (D := (fun _ => cC, fun _ => iS)) hts (jk_uw k) (jk_cl k).2.2.2 (jk_clty k) (jk_clnm k) ⟨fun c q hq => by
      match c, hq with
      | 0, hq => cases hq; exact hK, fun k q h => by simp at h⟩ rfl
  obtain ⟨hF, hfc, kC, hkC, hkind⟩ := id hK
  obtain ⟨cf, kf, fi, f, hfi, hsl⟩ := hF i hi
  have hlay := hts _ (jk_uw k _ (u_in_lay hi))
  unfold u_lay at hlay
  rw [if_pos hfin] at hlay
  have hst := (u_facts hfc hkC (u_lays hts (jk_uw k) hi) hfi).1
  have hcf : m.cls = cf := by
    obtain ⟨_, _, c', _, _, _, -, -, hf', -, -, -, hown2, -⟩ := Cond.laysFinal_spec hlay
    have e1 : c' = cf := by have := hfi.symm.trans hf'; simp at this; exact this.1.symm
    rw [hdecl] at hown2
    rw [← e1]; exact Option.some.inj (C.2.2.2.2.2.1.symm.trans hown2)
  have h6' := u_fits hfc hkC hkind (Or.inr hlay) hfi (jk_clty k i hi) hn hfit
  refine W.putFinK C.1 C.2.1 C.2.2.2.2.2.1 (hts _ hw) hfi hst hcf (C.2.2.2.2.2.2.2.2.1 hini) (by rw [q2]; exact h6') q1 q3 (by rw [hsl]; exact k2_hasslot (q4 i hi)) rfl rfl hd fun H' e1 e2 e3 => ?_
  rw [hsl] at e1 ⊢
  refine kk p e R s m args below meth c H' _ cells slots ls' C hl (jk_R_set hR e2 e3 h6 hae ?_ (fun b hb => funext fun j => hσ b j (fun h => hb h.1)) (fun b hb => funext fun j => hρ b j (fun h => hb h.1))) (hS.put e2 e3 (jk_ad_A h6 hae)) hc hs
  rw [ht]
  refine ⟨h6, han, hae, cC, iS, hK, t_OB.to (V := updV (fun j => jk_E G ((jk_cl k).2.2.2 j) (σ a (j : Int)) (ρ a (j : Int))) i (jk_re G v)) ⟨_, e1, q2, q3, t_set q4 hap hi (jk_re G v)⟩ (fun j hj => ?_)⟩
  by_cases hji : j = i
  · subst hji; simp [updV, hv]
  · simp only [updV]; rw [if_neg hji, hσ a j (fun h => hji (Int.ofNat.inj h.2)), hρ a j (fun h => hji (Int.ofNat.inj h.2))]
theorem jk_putIF {a k index : Nat} {x : Int} (i : Nat) (ii : Int) (hii : (i : Int) = ii) (ht : t a = some (.inr k)) (hi : Nat.blt i (jk_cl k).2.2.1 = true) (hfin : ((jk_cl k).2.1 i).2.2.2 = true) (hini : jk_ini M = true) (hdecl : ((jk_cl k).2.1 i).1 = jk_own M) (hy : (jk_cl k).2.2.2 i = .int) (hw : Cond.fieldLink (jk_own M) index ((jk_cl k).2.1 i).1 ((jk_cl k).2.1 i).2.1 ((jk_cl k).2.1 i).2.2.1 ∈ jk_WS) (hd : decode (jk_cc M) pc = .ok (.putfield index, 3)) (hp : pc + 3 = q) (kk : jk_J G M q ls st n t (jk_up σ a ii x) ρ rc rs Q X) : jk_J G M pc ls (jI x :: .ref a :: st) n t σ ρ rc rs Q X := by
  subst hii; exact jk_putF ht (Nat.blt_eq.mp hi) hfin hini hdecl (by rw [hy]; rfl) (by rw [hy]; rfl) (by rw [hy, jk_up_same]; rfl) (fun b j h => jk_up_ne σ x h) (fun _ _ _ => rfl) hw hd hp kk
theorem jk_putZF {a k index : Nat} {x : Int} (i : Nat) (ii : Int) (hii : (i : Int) = ii) (ht : t a = some (.inr k)) (hi : Nat.blt i (jk_cl k).2.2.1 = true) (hfin : ((jk_cl k).2.1 i).2.2.2 = true) (hini : jk_ini M = true) (hdecl : ((jk_cl k).2.1 i).1 = jk_own M) (hy : (jk_cl k).2.2.2 i = .boolean) (hx : x = 0 ∨ x = 1) (hw : Cond.fieldLink (jk_own M) index ((jk_cl k).2.1 i).1 ((jk_cl k).2.1 i).2.1 ((jk_cl k).2.1 i).2.2.1 ∈ jk_WS) (hd : decode (jk_cc M) pc = .ok (.putfield index, 3)) (hp : pc + 3 = q) (kk : jk_J G M q ls st n t (jk_up σ a ii x) ρ rc rs Q X) : jk_J G M pc ls (jI x :: .ref a :: st) n t σ ρ rc rs Q X := by
  subst hii; exact jk_putF ht (Nat.blt_eq.mp hi) hfin hini hdecl (by rw [hy]; rcases hx with rfl | rfl <;> rfl) (by rw [hy]; rcases hx with rfl | rfl <;> rfl) (by rw [hy, jk_up_same]; rfl) (fun b j h => jk_up_ne σ x h) (fun _ _ _ => rfl) hw hd hp kk
theorem jk_putAF {a k index v : Nat} (i : Nat) (ii : Int) (hii : (i : Int) = ii) (ht : t a = some (.inr k)) (hi : Nat.blt i (jk_cl k).2.2.1 = true) (hfin : ((jk_cl k).2.1 i).2.2.2 = true) (hini : jk_ini M = true) (hdecl : ((jk_cl k).2.1 i).1 = jk_own M) (hy : (∃ c, (jk_cl k).2.2.2 i = .object c) ∨ ∃ c, (jk_cl k).2.2.2 i = .array c) (hw : Cond.fieldLink (jk_own M) index ((jk_cl k).2.1 i).1 ((jk_cl k).2.1 i).2.1 ((jk_cl k).2.1 i).2.2.1 ∈ jk_WS) (hd : decode (jk_cc M) pc = .ok (.putfield index, 3)) (hp : pc + 3 = q) (kk : jk_J G M q ls st n t σ (jk_up ρ a ii (some v)) rc rs Q X) : jk_J G M pc ls (.ref v :: .ref a :: st) n t σ ρ rc rs Q X := by
  subst hii; exact jk_putF ht (Nat.blt_eq.mp hi) hfin hini hdecl (by rcases hy with ⟨c, hy⟩ | ⟨c, hy⟩ <;> rw [hy] <;> rfl) (by rcases hy with ⟨c, hy⟩ | ⟨c, hy⟩ <;> rw [hy] <;> rfl) (by rcases hy with ⟨c, hy⟩ | ⟨c, hy⟩ <;> rw [hy, jk_up_same] <;> rfl) (fun _ _ _ => rfl) (fun b j h => jk_up_ne ρ (some v) h) hw hd hp kk
end JH
