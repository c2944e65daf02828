section MD21
theorem md_wls_app (s : (Int → Int) × Int) (a b : List Int) : md_wls s (a ++ b) = md_wls (md_wls s a) b := List.foldl_append
theorem md_wls_cons (s : (Int → Int) × Int) (c : Int) (b : List Int) : md_wls s (c :: b) = md_wls (md_wr s c) b := rfl
theorem md_wls_nil (s : (Int → Int) × Int) : md_wls s [] = s := rfl
theorem md_wS_wS (σ : jk_I) (m : Nat) (O : Int → Int) (s s2 : (Int → Int) × Int) : md_wS (md_wS σ m O s) m O s2 = md_wS σ m O s2 := by
  unfold md_wS; rw [jk_rr _ _ _ _ _ (by omega)]
def md_rnl (g : Int → Int) (l : Int) : List Int := md_dgs l ++ 58 :: (md_dgs (g (24 + l)) ++ 62 :: (md_dgs (g (40 + l)) ++ 32 :: (md_dgs (md_cor g l) ++ 47 :: (md_dgs (g (56 + l)) ++ [if md_T g l = 1 then 42 else if md_good g l = true then 111 else 120]))))
def md_rnb (g : Int → Int) (p : Int) : List Int := md_dgs p ++ 61 :: ((if md_H g p = true then md_dgs (md_HT g p) else [63]) ++ (if g (4 + p) = 1 then [33] else []))
/-- the heap behind a rendering of the list l -/
def md_rdS (σ : jk_I) (m : Nat) (O L g : Int → Int) (l : List Int) : jk_I := md_th (md_wS (md_gr σ m g) m O (md_wls (L, 0) l)) m (jk_set O 11 (md_wls (L, 0) l).2) 0
def md_rlS (σ : jk_I) (m : Nat) (O L g : Int → Int) (l : Int) : jk_I := if md_in l 0 (g 1 - 1) = false then md_th σ m O 1 else md_rdS σ m O L g (md_rnl g l)
def md_rlV (g : Int → Int) (l : Int) : Int := if md_in l 0 (g 1 - 1) = false then 0 else (md_rnl g l).length
def md_rbS (σ : jk_I) (m : Nat) (O L g : Int → Int) (p : Int) : jk_I := if md_in p 0 (g 0 - 1) = false then md_th σ m O 1 else md_rdS σ m O L g (md_rnb g p)
def md_rbV (g : Int → Int) (p : Int) : Int := if md_in p 0 (g 0 - 1) = false then 0 else (md_rnb g p).length
end MD21
