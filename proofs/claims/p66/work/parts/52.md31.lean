section MD31
def md_fb (s c : Nat) : Bool := decide (FP.fdiv (FP.i2f (Int32.ofInt (s : Int))) (FP.i2f (Int32.ofInt (c : Int))) &&& 0x7fffffff ≤ 0x7f800000)
theorem md_fb_all : ((List.range 17).all fun s => (List.range 17).all fun c => c == 0 || md_fb s c) = true := by decide +kernel
def md_db (s c : Nat) : Bool := decide (FP.ddiv (FP.i2d (Int32.ofInt (s : Int))) (FP.i2d (Int32.ofInt (c : Int))) &&& 0x7fffffffffffffff ≤ 0x7ff0000000000000)
theorem md_db_all : ((List.range 801).all fun s => (List.range 17).all fun c => c == 0 || md_db s c) = true := by decide +kernel
theorem md_fp_at {f : Nat → Nat → Bool} {a b s c : Nat} (h : ((List.range a).all fun s => (List.range b).all fun c => c == 0 || f s c) = true) (hs : s < a) (hc : c < b) (hc0 : c ≠ 0) : f s c = true := by
  have h1 := List.all_eq_true.mp (List.all_eq_true.mp h s (List.mem_range.mpr hs)) c (List.mem_range.mpr hc)
  rcases (Bool.or_eq_true _ _).mp h1 with h2 | h2
  · exact absurd (beq_iff_eq.mp h2) hc0
  · exact h2
/-- the divisions are never NaN -/
theorem md_fp_ok : md_fp := by
  refine ⟨fun s c hs hc => ?_, fun s c hs hc => ?_⟩
  · have h := md_fp_at (s := s.toNat) (c := c.toNat) md_db_all (by omega) (by omega) (by omega)
    unfold md_db at h
    rw [show ((s.toNat : Nat) : Int) = s by omega, show ((c.toNat : Nat) : Int) = c by omega] at h
    exact (of_decide_eq_true h : _ &&& _ ≤ _)
  · have h := md_fp_at (s := s.toNat) (c := c.toNat) md_fb_all (by omega) (by omega) (by omega)
    unfold md_fb at h
    rw [show ((s.toNat : Nat) : Int) = s by omega, show ((c.toNat : Nat) : Int) = c by omega] at h
    exact (of_decide_eq_true h : _ &&& _ ≤ _)
end MD31
