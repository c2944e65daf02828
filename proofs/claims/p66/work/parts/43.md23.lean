section MD23
theorem md_n3_ok {Bf : Int → Int} {ty a b c : Int} (hB : ∀ j, 0 ≤ j ∧ j < 60 → 0 ≤ Bf j ∧ Bf j < 65536) (hty : 0 ≤ ty ∧ ty ≤ 60) (ha : 0 ≤ a) (hb : 0 ≤ b) (hc : 0 ≤ c) {s : md_PS} (hs : md_sok ty s.1) : md_sok ty (md_n3 Bf ty a b c s).1 := md_nd_ok hB hty hc (md_nd_ok hB hty hb (md_nd_ok hB hty ha hs))
theorem md_da_ok {Bf : Int → Int} {ty c : Int} (hB : ∀ j, 0 ≤ j ∧ j < 60 → 0 ≤ Bf j ∧ Bf j < 65536) (hty : 0 ≤ ty ∧ ty ≤ 60) (hc : 0 ≤ c) {most : Nat} {s : md_PS} (hs : md_sok ty s.1) : md_sok ty (md_da Bf ty c most s).1.1 := md_di_ok hB hty (md_nd_ok hB hty hc hs)
theorem md_va_ok {Bf : Int → Int} {ty c : Int} (hB : ∀ j, 0 ≤ j ∧ j < 60 → 0 ≤ Bf j ∧ Bf j < 65536) (hty : 0 ≤ ty ∧ ty ≤ 60) (hc : 0 ≤ c) {s : md_PS} (hs : md_sok ty s.1) : md_sok ty (md_va Bf ty c s).1.1 := md_di_ok hB hty (s := ((md_nd Bf ty c s).1 + jB (md_lo Bf ty c s), (md_nd Bf ty c s).2)) (md_lo_ok hB hty hc hs)
abbrev md_TR : Type := md_PS × (Int → Int)
def md_pP (Bf : Int → Int) (ty k : Int) (s : md_PS) (P : Int → Int) : md_TR :=
  if md_he Bf ty s.1 = 114 then ((md_da Bf ty 32 1 (md_n3 Bf ty 105 108 101 (md_n3 Bf ty 114 111 102 s))).1, jk_set (jk_set P k 111) (k + 1) (md_da Bf ty 32 1 (md_n3 Bf ty 105 108 101 (md_n3 Bf ty 114 111 102 s))).2)
  else (md_nd Bf ty 116 (md_n3 Bf ty 111 105 110 s), P)
def md_pF (Bf : Int → Int) (ty k : Int) (s : md_PS) (P : Int → Int) : md_TR :=
  if md_he Bf ty s.1 = 114 then ((md_da Bf ty 32 1 (md_n3 Bf ty 114 101 101 s)).1, jk_set (jk_set P k 117) (k + 1) (md_da Bf ty 32 1 (md_n3 Bf ty 114 101 101 s)).2)
  else ((md_va Bf ty 32 (md_da Bf ty 32 1 (md_nd Bf ty 120 (md_nd Bf ty 105 s))).1).1, jk_set (jk_set P (k + 1) (md_da Bf ty 32 1 (md_nd Bf ty 120 (md_nd Bf ty 105 s))).2) (k + 2) (md_va Bf ty 32 (md_da Bf ty 32 1 (md_nd Bf ty 120 (md_nd Bf ty 105 s))).1).2)
def md_pSt (Bf : Int → Int) (ty k : Int) (s : md_PS) (P : Int → Int) : md_TR :=
  if md_he Bf ty s.1 = 104 then ((md_da Bf ty 32 2 (md_nd Bf ty 101 (md_n3 Bf ty 104 97 114 s))).1, jk_set (jk_set P k 104) (k + 1) (md_da Bf ty 32 2 (md_nd Bf ty 101 (md_n3 Bf ty 104 97 114 s))).2)
  else
    let a := md_da Bf ty 32 1 (md_n3 Bf ty 105 111 110 (md_n3 Bf ty 116 97 116 s))
    let b := md_da Bf ty 32 2 a.1
    let c := md_va Bf ty 58 b.1
    (c.1, jk_set (jk_set (jk_set P (k + 1) a.2) (k + 2) b.2) (k + 3) c.2)
def md_pL (Bf : Int → Int) (ty k : Int) (s : md_PS) (P : Int → Int) : md_TR :=
  let a := md_da Bf ty 32 1 (md_n3 Bf ty 105 110 101 s)
  let b := md_di Bf ty 1 a.1
  let c := md_va Bf ty 32 b.1
  let d := md_da Bf ty 47 2 c.1
  (d.1, jk_set (jk_set (jk_set (jk_set P (k + 1) a.2) (k + 2) b.2) (k + 3) c.2) (k + 4) d.2)
def md_pM (Bf : Int → Int) (ty k x y : Int) (s : md_PS) (P : Int → Int) : md_TR :=
  let a := md_da Bf ty 32 2 (md_nd Bf ty 101 (md_n3 Bf ty 108 117 100 (md_nd Bf ty y (md_nd Bf ty x s))))
  (a.1, jk_set P (k + 1) a.2)
def md_pB (Bf : Int → Int) (ty k : Int) (s : md_PS) (P : Int → Int) : md_TR :=
  let a := md_da Bf ty 32 2 (md_n3 Bf ty 97 99 107 s)
  let b := md_va Bf ty 32 a.1
  (b.1, jk_set (jk_set P (k + 1) a.2) (k + 2) b.2)
def md_pW (Bf : Int → Int) (ty k : Int) (s : md_PS) (P : Int → Int) : md_TR :=
  let a := md_va Bf ty 32 (md_nd Bf ty 114 (md_n3 Bf ty 97 116 101 s))
  (a.1, jk_set P (k + 1) a.2)
/-- a command read at the place s.1 -/
def md_cmd (Bf : Int → Int) (ty k : Int) (s : md_PS) (P : Int → Int) : md_TR :=
  let c := md_he Bf ty s.1
  let s1 : md_PS := (s.1 + 1, s.2)
  let P1 := jk_set P k c
  if c = 98 then md_pB Bf ty k s1 P1 else
  if c = 101 then md_pM Bf ty k 120 99 s1 P1 else
  if c = 102 then md_pF Bf ty k s1 P1 else
  if c = 105 then md_pM Bf ty k 110 99 s1 P1 else
  if c = 108 then md_pL Bf ty k s1 P1 else
  if c = 112 then md_pP Bf ty k s1 P1 else
  if c = 114 then (md_nd Bf ty 116 (md_n3 Bf ty 101 115 101 s1), P1) else
  if c = 115 then md_pSt Bf ty k s1 P1 else
  if c = 119 then md_pW Bf ty k s1 P1 else
  ((s.1 + 1 - 1, true), P1)
end MD23
