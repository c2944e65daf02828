section RU7
def zk_nm : Nat → String := fun i => match i with
  | 0 => "POINT"
  | 1 => "FIX"
  | 2 => "FREE"
  | 3 => "LINE"
  | 4 => "BACK"
  | 5 => "EXCLUDE"
  | 6 => "INCLUDE"
  | 7 => "SHARE"
  | 8 => "RESET"
  | 9 => "PROFILE"
  | 10 => "STATION"
  | _ => "WATER"
def zt_nm : Nat → String := fun i => match i with
  | 0 => "NOTHING"
  | 1 => "NO_INDEX"
  | 2 => "BAD_ARGUMENT"
  | 3 => "BAD_STATE"
  | 4 => "NO_LOOP"
  | _ => "TOO_GREAT"
def zk_sw : Nat → Int := fun i => match i with
  | 0 => 1
  | 1 => 2
  | 2 => 3
  | 3 => 4
  | 4 => 5
  | 5 => 6
  | 6 => 7
  | 7 => 8
  | 8 => 12
  | 9 => 9
  | 10 => 10
  | _ => 11
def zs_tx : Nat → List Int := fun i => match i with
  | 0 => [112, 111, 105, 110, 116]
  | 1 => [102, 105, 120, 32]
  | 2 => [102, 114, 101, 101, 32]
  | 3 => [108, 105, 110, 101, 32]
  | 4 => [98, 97, 99, 107, 32]
  | 5 => [101, 120, 99, 108, 117, 100, 101, 32]
  | 6 => [105, 110, 99, 108, 117, 100, 101, 32]
  | 7 => [115, 104, 97, 114, 101, 32]
  | 8 => [114, 101, 115, 101, 116]
  | 9 => [112, 114, 111, 102, 105, 108, 101, 32]
  | 10 => [115, 116, 97, 116, 105, 111, 110, 32]
  | 11 => [119, 97, 116, 101, 114, 32]
  | 12 => []
  | 13 => [100, 32, 118]
  | 14 => [100]
  | 15 => [100, 100, 32, 118, 47, 110]
  | 16 => [110, 32, 118]
  | 17 => [110]
  | 18 => [100, 32, 110, 58, 118]
  | _ => [118]
def zs_fm : Nat → Nat := fun k => match k with
  | 0 => 12
  | 1 => 13
  | 2 => 14
  | 3 => 15
  | 4 => 16
  | 5 => 17
  | 6 => 17
  | 7 => 17
  | 8 => 12
  | 9 => 14
  | 10 => 18
  | _ => 19
def zs_len (i : Nat) : Nat := (zs_tx i).length
def zs_ch (i j : Nat) : Int := (zs_tx i).getD j 0
/-- an enum's constants at base, base + 1 .. -/
def zz_enum (G : jk_G) (C d : String) (nm : Nat → String) (N base : Nat) : Prop := ∀ i, i < N → ∀ s, jk_Z G s → va_Z C (nm i) d (.ref (jk_ad G (base + i))) (jk_A G) s s.heap ∧ va_O C (jk_ad G (base + i)) (jk_A G) s s.heap ∧ va_OF "java/lang/Enum" "ordinal" "I" (jI (i : Int)) (jk_ad G (base + i)) (jk_A G) s s.heap
/-- what the launch has laid: the kinds (0 ..), the troubles (12 ..), KINDS (18), the two switches' tables (19, 20) -/
def zz_ok (G : jk_G) : Prop := zz_enum G "LevelingNetwork$Kind" "LLevelingNetwork$Kind;" zk_nm 12 0 ∧ zz_enum G "LevelingNetwork$Trouble" "LLevelingNetwork$Trouble;" zt_nm 6 12 ∧
  (∀ s, jk_Z G s → va_Z "LevelingNetwork$1" "$SwitchMap$LevelingNetwork$Kind" "[I" (.ref (jk_ad G 19)) (jk_A G) s s.heap ∧ va_T .int (jk_ad G 19) 12 (fun j => jI (zk_sw j)) (jk_A G) s s.heap ∧
    va_Z "LevelingNetwork$1" "$SwitchMap$LevelingNetwork$Trouble" "[I" (.ref (jk_ad G 20)) (jk_A G) s s.heap ∧ va_T .int (jk_ad G 20) 6 (fun j => jI (j : Int)) (jk_A G) s s.heap ∧
    va_Z "LevelingNetwork" "KINDS" "[LLevelingNetwork$Kind;" (.ref (jk_ad G 18)) (jk_A G) s s.heap ∧ va_T (.object "LevelingNetwork$Kind") (jk_ad G 18) 12 (fun j => .ref (jk_ad G j)) (jk_A G) s s.heap) ∧
  (∀ i, 0 < i → i < 6 → jk_ad G 12 ≠ jk_ad G (12 + i)) ∧
  (∀ k, k < 12 → ∀ s, jk_Z G s → va_OF "LevelingNetwork$Kind" "word" "Ljava/lang/String;" (.ref (jk_ad G (21 + k))) (jk_ad G k) (jk_A G) s s.heap ∧ va_OF "LevelingNetwork$Kind" "form" "Ljava/lang/String;" (.ref (jk_ad G (21 + zs_fm k))) (jk_ad G k) (jk_A G) s s.heap) ∧
  (∀ i, i < 20 → ∀ s, jk_Z G s → va_O "java/lang/String" (jk_ad G (21 + i)) (jk_A G) s s.heap ∧ va_OF "java/lang/String" "value" "[B" (.ref (jk_ad G (41 + i))) (jk_ad G (21 + i)) (jk_A G) s s.heap ∧ va_OF "java/lang/String" "coder" "B" (jI 0) (jk_ad G (21 + i)) (jk_A G) s s.heap ∧ va_T .byte (jk_ad G (41 + i)) (zs_len i) (fun j => jI (zs_ch i j)) (jk_A G) s s.heap) ∧
  (∀ s, jk_Z G s → va_Z "java/lang/String" "COMPACT_STRINGS" "Z" (jI 1) (jk_A G) s s.heap ∧
    va_Z "java/lang/Integer" "DigitOnes" "[B" (.ref (jk_ad G 61)) (jk_A G) s s.heap ∧ va_T .byte (jk_ad G 61) 100 (fun j => jI (48 + (j : Int) % 10)) (jk_A G) s s.heap ∧
    va_Z "java/lang/Integer" "DigitTens" "[B" (.ref (jk_ad G 62)) (jk_A G) s s.heap ∧ va_T .byte (jk_ad G 62) 100 (fun j => jI (48 + (j : Int) / 10)) (jk_A G) s s.heap)
section ZZ
theorem zz_Ks {G : jk_G} (hz : zz_ok G) {i : Nat} (hi : i < 12) : ∀ s, jk_Z G s → va_Z "LevelingNetwork$Kind" (zk_nm i) "LLevelingNetwork$Kind;" (.ref (jk_ad G i)) (jk_A G) s s.heap := fun s h => by have := (hz.1 i hi s h).1; rw [Nat.zero_add] at this; exact this
theorem zz_Ts {G : jk_G} (hz : zz_ok G) {i : Nat} (hi : i < 6) : ∀ s, jk_Z G s → va_Z "LevelingNetwork$Trouble" (zt_nm i) "LLevelingNetwork$Trouble;" (.ref (jk_ad G (12 + i))) (jk_A G) s s.heap := fun s h => (hz.2.1 i hi s h).1
theorem zz_mK {G : jk_G} (hz : zz_ok G) : ∀ s, jk_Z G s → va_Z "LevelingNetwork$1" "$SwitchMap$LevelingNetwork$Kind" "[I" (.ref (jk_ad G 19)) (jk_A G) s s.heap := fun s h => (hz.2.2.1 s h).1
theorem zz_mKt {G : jk_G} (hz : zz_ok G) : ∀ s, jk_Z G s → va_T .int (jk_ad G 19) 12 (fun j => jI (zk_sw j)) (jk_A G) s s.heap := fun s h => (hz.2.2.1 s h).2.1
theorem zz_mT {G : jk_G} (hz : zz_ok G) : ∀ s, jk_Z G s → va_Z "LevelingNetwork$1" "$SwitchMap$LevelingNetwork$Trouble" "[I" (.ref (jk_ad G 20)) (jk_A G) s s.heap := fun s h => (hz.2.2.1 s h).2.2.1
theorem zz_mTt {G : jk_G} (hz : zz_ok G) : ∀ s, jk_Z G s → va_T .int (jk_ad G 20) 6 (fun j => jI (j : Int)) (jk_A G) s s.heap := fun s h => (hz.2.2.1 s h).2.2.2.1
theorem zz_KS {G : jk_G} (hz : zz_ok G) : ∀ s, jk_Z G s → va_Z "LevelingNetwork" "KINDS" "[LLevelingNetwork$Kind;" (.ref (jk_ad G 18)) (jk_A G) s s.heap := fun s h => (hz.2.2.1 s h).2.2.2.2.1
theorem zz_KSt {G : jk_G} (hz : zz_ok G) : ∀ s, jk_Z G s → va_T (.object "LevelingNetwork$Kind") (jk_ad G 18) 12 (fun j => .ref (jk_ad G j)) (jk_A G) s s.heap := fun s h => (hz.2.2.1 s h).2.2.2.2.2
theorem zz_word {G : jk_G} (hz : zz_ok G) {k : Nat} (hk : k < 12) : ∀ s, jk_Z G s → va_OF "LevelingNetwork$Kind" "word" "Ljava/lang/String;" (.ref (jk_ad G (21 + k))) (jk_ad G k) (jk_A G) s s.heap := fun s h => (hz.2.2.2.2.1 k hk s h).1
theorem zz_form {G : jk_G} (hz : zz_ok G) {k : Nat} (hk : k < 12) : ∀ s, jk_Z G s → va_OF "LevelingNetwork$Kind" "form" "Ljava/lang/String;" (.ref (jk_ad G (21 + zs_fm k))) (jk_ad G k) (jk_A G) s s.heap := fun s h => (hz.2.2.2.2.1 k hk s h).2
theorem zz_sO {G : jk_G} (hz : zz_ok G) {i : Nat} (hi : i < 20) : ∀ s, jk_Z G s → va_O "java/lang/String" (jk_ad G (21 + i)) (jk_A G) s s.heap := fun s h => (hz.2.2.2.2.2.1 i hi s h).1
theorem zz_sv {G : jk_G} (hz : zz_ok G) {i : Nat} (hi : i < 20) : ∀ s, jk_Z G s → va_OF "java/lang/String" "value" "[B" (.ref (jk_ad G (41 + i))) (jk_ad G (21 + i)) (jk_A G) s s.heap := fun s h => (hz.2.2.2.2.2.1 i hi s h).2.1
theorem zz_sc {G : jk_G} (hz : zz_ok G) {i : Nat} (hi : i < 20) : ∀ s, jk_Z G s → va_OF "java/lang/String" "coder" "B" (jI 0) (jk_ad G (21 + i)) (jk_A G) s s.heap := fun s h => (hz.2.2.2.2.2.1 i hi s h).2.2.1
theorem zz_st {G : jk_G} (hz : zz_ok G) {i : Nat} (hi : i < 20) : ∀ s, jk_Z G s → va_T .byte (jk_ad G (41 + i)) (zs_len i) (fun j => jI (zs_ch i j)) (jk_A G) s s.heap := fun s h => (hz.2.2.2.2.2.1 i hi s h).2.2.2
theorem zz_cs {G : jk_G} (hz : zz_ok G) : ∀ s, jk_Z G s → va_Z "java/lang/String" "COMPACT_STRINGS" "Z" (jI 1) (jk_A G) s s.heap := fun s h => (hz.2.2.2.2.2.2 s h).1
theorem zz_d1 {G : jk_G} (hz : zz_ok G) : ∀ s, jk_Z G s → va_Z "java/lang/Integer" "DigitOnes" "[B" (.ref (jk_ad G 61)) (jk_A G) s s.heap := fun s h => (hz.2.2.2.2.2.2 s h).2.1
theorem zz_d1t {G : jk_G} (hz : zz_ok G) : ∀ s, jk_Z G s → va_T .byte (jk_ad G 61) 100 (fun j => jI (48 + (j : Int) % 10)) (jk_A G) s s.heap := fun s h => (hz.2.2.2.2.2.2 s h).2.2.1
theorem zz_d10 {G : jk_G} (hz : zz_ok G) : ∀ s, jk_Z G s → va_Z "java/lang/Integer" "DigitTens" "[B" (.ref (jk_ad G 62)) (jk_A G) s s.heap := fun s h => (hz.2.2.2.2.2.2 s h).2.2.2.1
theorem zz_d10t {G : jk_G} (hz : zz_ok G) : ∀ s, jk_Z G s → va_T .byte (jk_ad G 62) 100 (fun j => jI (48 + (j : Int) / 10)) (jk_A G) s s.heap := fun s h => (hz.2.2.2.2.2.2 s h).2.2.2.2
theorem zz_ne {G : jk_G} (hz : zz_ok G) {i : Nat} (h0 : 0 < i) (hi : i < 6) : jk_ad G 12 ≠ jk_ad G (12 + i) := hz.2.2.2.1 i h0 hi
end ZZ
abbrev mOrd : jk_M := (RJx29ce0, cJx29ce0_ordinal_8abf5, 1, (some FieldType.int), [], false, 0)
theorem jm_Ord : jk_me yJx29ce0_ordinal_8abf5 mOrd 0 := ⟨jw_442, jw_20, ⟨by decide +kernel, by decide +kernel⟩, by decide +kernel, by decide +kernel, rfl, by decide, fun h => absurd h (by decide), rfl⟩
section OR
variable {G : jk_G} {M : jk_M} {pc q : Nat} {ls : List (Option Value)} {st : List Value} {n : Nat} {t : jk_T} {σ : jk_I} {ρ : jk_P} {rc rs : Nat} {Q : jk_Q} {X : jk_X}
theorem c_ord {C d : String} {nm : Nat → String} {N base i : Nat} (hz : zz_enum G C d nm N base) (hi : i < N) : jk_K G yJx29ce0_ordinal_8abf5 mOrd 0 0 [.ref (base + i)] n t σ ρ (jk_q (some (jI (i : Int))) n t σ ρ) jk_no := by
  refine jk_entryB (ls := [some (.ref (base + i))]) jm_Ord rfl rfl rfl ?_
  refine jk_aload_n (q := 1) dJx29ce0_ordinal_8abf5_0 rfl rfl ?_
  refine jk_oget (q := 4) (v := jI (i : Int)) (fun s h => (hz i hi s h).2.2) jw_1783 dJx29ce0_ordinal_8abf5_1 rfl ?_
  exact jk_iret rfl dJx29ce0_ordinal_8abf5_4 jk_qr
theorem jk_ord {C d : String} {nm : Nat → String} {N base i index : Nat} (hz : zz_enum G C d nm N base) (hi : i < N) (hsel : Cond.selects C ⟨C, "ordinal", "()I"⟩ yJx29ce0_ordinal_8abf5 ∈ jk_WS) (hsame : Cond.sameMethod C "java/lang/Enum" "ordinal" "()I" ∈ jk_WS) (hw : Cond.methodLink (jk_own M) index ⟨C, "ordinal", "()I"⟩ ∈ jk_WS) (hdep : Nat.ble 1 (jk_d M) = true) (hlen : Nat.ble st.length 4 = true) (htb : jk_tb M = []) (hd : decode (jk_cc M) pc = .ok (.invokevirtual index, 3)) (hp : pc + 3 = q) (kk : jk_J G M q ls (jI (i : Int) :: st) n t σ ρ rc rs Q X) : jk_J G M pc ls (.ref (base + i) :: st) n t σ ρ rc rs Q X :=
  jk_callUO (x := ⟨C, "ordinal", "()I"⟩) (Cn := C) (owner := "java/lang/Enum") (mc := 0) (ms := 0) (As := []) (fun s h => (hz i hi s h).2.1) (c_ord hz hi) jm_Ord rfl jw_441 hsel hsame hw rfl (Nat.le_of_ble_eq_true hdep) (Nat.le_of_ble_eq_true hlen) (Nat.zero_le _) (Nat.zero_le _) (fun x hx => by rw [htb] at hx; cases hx) hd hp (fun v' n' t' σ' ρ' hq => by obtain ⟨rfl, rfl, rfl, rfl, rfl⟩ := hq; exact kk) (fun _ _ _ _ _ h => h.elim)
theorem jk_ordK {i index : Nat} (hz : zz_ok G) (hi : i < 12) (hw : Cond.methodLink (jk_own M) index ⟨"LevelingNetwork$Kind", "ordinal", "()I"⟩ ∈ jk_WS) (hdep : Nat.ble 1 (jk_d M) = true) (hlen : Nat.ble st.length 4 = true) (htb : jk_tb M = []) (hd : decode (jk_cc M) pc = .ok (.invokevirtual index, 3)) (hp : pc + 3 = q) (kk : jk_J G M q ls (jI (i : Int) :: st) n t σ ρ rc rs Q X) : jk_J G M pc ls (.ref i :: st) n t σ ρ rc rs Q X := by
  have h := jk_ord (M := M) (pc := pc) (q := q) (ls := ls) (st := st) (n := n) (t := t) (σ := σ) (ρ := ρ) (rc := rc) (rs := rs) (Q := Q) (X := X) hz.1 hi jw_440 jw_438 hw hdep hlen htb hd hp kk
  rw [Nat.zero_add] at h
  exact h
theorem jk_ordT {i index : Nat} (hz : zz_ok G) (hi : i < 6) (hw : Cond.methodLink (jk_own M) index ⟨"LevelingNetwork$Trouble", "ordinal", "()I"⟩ ∈ jk_WS) (hdep : Nat.ble 1 (jk_d M) = true) (hlen : Nat.ble st.length 4 = true) (htb : jk_tb M = []) (hd : decode (jk_cc M) pc = .ok (.invokevirtual index, 3)) (hp : pc + 3 = q) (kk : jk_J G M q ls (jI (i : Int) :: st) n t σ ρ rc rs Q X) : jk_J G M pc ls (.ref (12 + i) :: st) n t σ ρ rc rs Q X := jk_ord hz.2.1 hi jw_589 jw_588 hw hdep hlen htb hd hp kk
theorem jk_qR {x y : Nat} (h : x = y) : jk_q (some (.ref y)) n t σ ρ (some (.ref x)) n t σ ρ := by subst h; exact jk_qr
end OR
theorem zk_c1 : ∀ k, k < 12 → zk_sw k = 1 → k = 0 := by decide
theorem zk_c2 : ∀ k, k < 12 → zk_sw k = 2 → k = 1 := by decide
theorem zk_c3 : ∀ k, k < 12 → zk_sw k = 3 → k = 2 := by decide
theorem zk_c4 : ∀ k, k < 12 → zk_sw k = 4 → k = 3 := by decide
theorem zk_c5 : ∀ k, k < 12 → zk_sw k = 5 → k = 4 := by decide
theorem zk_c6 : ∀ k, k < 12 → zk_sw k = 6 → k = 5 := by decide
theorem zk_c7 : ∀ k, k < 12 → zk_sw k = 7 → k = 6 := by decide
theorem zk_c8 : ∀ k, k < 12 → zk_sw k = 8 → k = 7 := by decide
theorem zk_c9 : ∀ k, k < 12 → zk_sw k = 9 → k = 9 := by decide
theorem zk_c10 : ∀ k, k < 12 → zk_sw k = 10 → k = 10 := by decide
theorem zk_c11 : ∀ k, k < 12 → zk_sw k = 11 → k = 11 := by decide
theorem zk_c12 : ∀ k, k < 12 → zk_sw k = 12 → k = 8 := by decide
end RU7
