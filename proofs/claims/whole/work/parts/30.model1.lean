/-! ===== the reference: how it lies; small functions ===== -/
def xModel (sh : Nat → Nat × Nat) (R : xR) (M : Nat) : Prop := sh M = (0, 10) ∧ sh (M + 1) = (1, 6) ∧ sh (M + 2) = (1, 6) ∧ sh (M + 3) = (1, 6) ∧ sh (M + 4) = (1, 6) ∧ sh (M + 5) = (1, 6) ∧ sh (M + 6) = (1, 6) ∧ sh (M + 7) = (1, 100) ∧ sh (M + 8) = (1, 6) ∧ sh (M + 9) = (1, 48) ∧ sh (M + 10) = (1, 48) ∧ sh (M + 11) = (1, 48) ∧ sh (M + 12) = (1, 48) ∧ sh (M + 13) = (1, 600) ∧ sh (M + 14) = (1, 101) ∧ sh (M + 15) = (1, 13) ∧ sh (M + 16) = (1, 6) ∧ sh (M + 17) = (1, 6) ∧ sh (M + 18) = (2, 100) ∧ sh (M + 19) = (1, 12) ∧ sh (M + 20) = (1, 36) ∧ sh (M + 21) = (1, 6) ∧ sh (M + 22) = (1, 6) ∧ sh (M + 23) = (1, 5) ∧ sh (M + 24) = (1, 6) ∧ sh (M + 25) = (1, 6) ∧ sh (M + 26) = (1, 10) ∧ sh (M + 27) = (1, 6) ∧ sh (M + 28) = (1, 6) ∧ sh (M + 29) = (1, 6) ∧ sh (M + 30) = (1, 6) ∧ sh (M + 31) = (1, 6) ∧ sh (M + 32) = (1, 6) ∧ sh (M + 33) = (1, 12) ∧ sh (M + 34) = (1, 10) ∧ sh (M + 35) = (1, 20) ∧ sh (M + 36) = (1, 6) ∧ sh (M + 37) = (1, 6) ∧ sh (M + 38) = (3, 360) ∧ sh (M + 39) = (3, 60) ∧ R M 4 = some (M + 1) ∧ R M 5 = some (M + 2) ∧ R M 6 = some (M + 3) ∧ R M 7 = some (M + 4) ∧ R M 8 = some (M + 5) ∧ R M 9 = some (M + 6) ∧ R M 15 = some (M + 7) ∧ R M 16 = some (M + 8) ∧ R M 17 = some (M + 9) ∧ R M 18 = some (M + 10) ∧ R M 19 = some (M + 11) ∧ R M 20 = some (M + 12) ∧ R M 21 = some (M + 13) ∧ R M 22 = some (M + 14) ∧ R M 26 = some (M + 15) ∧ R M 30 = some (M + 16) ∧ R M 31 = some (M + 17) ∧ R M 32 = some (M + 18) ∧ R M 39 = some (M + 19) ∧ R M 40 = some (M + 20) ∧ R M 41 = some (M + 21) ∧ R M 42 = some (M + 22) ∧ R M 43 = some (M + 23) ∧ R M 44 = some (M + 24) ∧ R M 45 = some (M + 25) ∧ R M 47 = some (M + 26) ∧ R M 56 = some (M + 27) ∧ R M 57 = some (M + 28) ∧ R M 58 = some (M + 29) ∧ R M 59 = some (M + 30) ∧ R M 60 = some (M + 31) ∧ R M 61 = some (M + 32) ∧ R M 62 = some (M + 33) ∧ R M 63 = some (M + 34) ∧ R M 65 = some (M + 35) ∧ R M 66 = some (M + 36) ∧ R M 67 = some (M + 37) ∧ R M 68 = some (M + 38) ∧ R M 69 = some (M + 39)
section XMODEL
variable {sh : Nat → Nat × Nat} {R : xR} {M : Nat}
theorem xModel.s (h : xModel sh R M) : sh M = (0, 10) := h.1
theorem xModel.s0 (h : xModel sh R M) : sh (M + 1) = (1, 6) := h.2.1
theorem xModel.f0 (h : xModel sh R M) : R M 4 = some (M + 1) := h.2.2.2.2.2.2.2.2.2.2.2.2.2.2.2.2.2.2.2.2.2.2.2.2.2.2.2.2.2.2.2.2.2.2.2.2.2.2.2.2.1
theorem xModel.s1 (h : xModel sh R M) : sh (M + 2) = (1, 6) := h.2.2.1
theorem xModel.f1 (h : xModel sh R M) : R M 5 = some (M + 2) := h.2.2.2.2.2.2.2.2.2.2.2.2.2.2.2.2.2.2.2.2.2.2.2.2.2.2.2.2.2.2.2.2.2.2.2.2.2.2.2.2.2.1
theorem xModel.s2 (h : xModel sh R M) : sh (M + 3) = (1, 6) := h.2.2.2.1
theorem xModel.f2 (h : xModel sh R M) : R M 6 = some (M + 3) := h.2.2.2.2.2.2.2.2.2.2.2.2.2.2.2.2.2.2.2.2.2.2.2.2.2.2.2.2.2.2.2.2.2.2.2.2.2.2.2.2.2.2.1
theorem xModel.s3 (h : xModel sh R M) : sh (M + 4) = (1, 6) := h.2.2.2.2.1
theorem xModel.f3 (h : xModel sh R M) : R M 7 = some (M + 4) := h.2.2.2.2.2.2.2.2.2.2.2.2.2.2.2.2.2.2.2.2.2.2.2.2.2.2.2.2.2.2.2.2.2.2.2.2.2.2.2.2.2.2.2.1
theorem xModel.s4 (h : xModel sh R M) : sh (M + 5) = (1, 6) := h.2.2.2.2.2.1
theorem xModel.f4 (h : xModel sh R M) : R M 8 = some (M + 5) := h.2.2.2.2.2.2.2.2.2.2.2.2.2.2.2.2.2.2.2.2.2.2.2.2.2.2.2.2.2.2.2.2.2.2.2.2.2.2.2.2.2.2.2.2.1
theorem xModel.s5 (h : xModel sh R M) : sh (M + 6) = (1, 6) := h.2.2.2.2.2.2.1
theorem xModel.f5 (h : xModel sh R M) : R M 9 = some (M + 6) := h.2.2.2.2.2.2.2.2.2.2.2.2.2.2.2.2.2.2.2.2.2.2.2.2.2.2.2.2.2.2.2.2.2.2.2.2.2.2.2.2.2.2.2.2.2.1
theorem xModel.s6 (h : xModel sh R M) : sh (M + 7) = (1, 100) := h.2.2.2.2.2.2.2.1
theorem xModel.f6 (h : xModel sh R M) : R M 15 = some (M + 7) := h.2.2.2.2.2.2.2.2.2.2.2.2.2.2.2.2.2.2.2.2.2.2.2.2.2.2.2.2.2.2.2.2.2.2.2.2.2.2.2.2.2.2.2.2.2.2.1
theorem xModel.s7 (h : xModel sh R M) : sh (M + 8) = (1, 6) := h.2.2.2.2.2.2.2.2.1
theorem xModel.f7 (h : xModel sh R M) : R M 16 = some (M + 8) := h.2.2.2.2.2.2.2.2.2.2.2.2.2.2.2.2.2.2.2.2.2.2.2.2.2.2.2.2.2.2.2.2.2.2.2.2.2.2.2.2.2.2.2.2.2.2.2.1
theorem xModel.s8 (h : xModel sh R M) : sh (M + 9) = (1, 48) := h.2.2.2.2.2.2.2.2.2.1
theorem xModel.f8 (h : xModel sh R M) : R M 17 = some (M + 9) := h.2.2.2.2.2.2.2.2.2.2.2.2.2.2.2.2.2.2.2.2.2.2.2.2.2.2.2.2.2.2.2.2.2.2.2.2.2.2.2.2.2.2.2.2.2.2.2.2.1
theorem xModel.s9 (h : xModel sh R M) : sh (M + 10) = (1, 48) := h.2.2.2.2.2.2.2.2.2.2.1
theorem xModel.f9 (h : xModel sh R M) : R M 18 = some (M + 10) := h.2.2.2.2.2.2.2.2.2.2.2.2.2.2.2.2.2.2.2.2.2.2.2.2.2.2.2.2.2.2.2.2.2.2.2.2.2.2.2.2.2.2.2.2.2.2.2.2.2.1
theorem xModel.s10 (h : xModel sh R M) : sh (M + 11) = (1, 48) := h.2.2.2.2.2.2.2.2.2.2.2.1
theorem xModel.f10 (h : xModel sh R M) : R M 19 = some (M + 11) := h.2.2.2.2.2.2.2.2.2.2.2.2.2.2.2.2.2.2.2.2.2.2.2.2.2.2.2.2.2.2.2.2.2.2.2.2.2.2.2.2.2.2.2.2.2.2.2.2.2.2.1
theorem xModel.s11 (h : xModel sh R M) : sh (M + 12) = (1, 48) := h.2.2.2.2.2.2.2.2.2.2.2.2.1
theorem xModel.f11 (h : xModel sh R M) : R M 20 = some (M + 12) := h.2.2.2.2.2.2.2.2.2.2.2.2.2.2.2.2.2.2.2.2.2.2.2.2.2.2.2.2.2.2.2.2.2.2.2.2.2.2.2.2.2.2.2.2.2.2.2.2.2.2.2.1
theorem xModel.s12 (h : xModel sh R M) : sh (M + 13) = (1, 600) := h.2.2.2.2.2.2.2.2.2.2.2.2.2.1
theorem xModel.f12 (h : xModel sh R M) : R M 21 = some (M + 13) := h.2.2.2.2.2.2.2.2.2.2.2.2.2.2.2.2.2.2.2.2.2.2.2.2.2.2.2.2.2.2.2.2.2.2.2.2.2.2.2.2.2.2.2.2.2.2.2.2.2.2.2.2.1
theorem xModel.s13 (h : xModel sh R M) : sh (M + 14) = (1, 101) := h.2.2.2.2.2.2.2.2.2.2.2.2.2.2.1
theorem xModel.f13 (h : xModel sh R M) : R M 22 = some (M + 14) := h.2.2.2.2.2.2.2.2.2.2.2.2.2.2.2.2.2.2.2.2.2.2.2.2.2.2.2.2.2.2.2.2.2.2.2.2.2.2.2.2.2.2.2.2.2.2.2.2.2.2.2.2.2.1
theorem xModel.s14 (h : xModel sh R M) : sh (M + 15) = (1, 13) := h.2.2.2.2.2.2.2.2.2.2.2.2.2.2.2.1
theorem xModel.f14 (h : xModel sh R M) : R M 26 = some (M + 15) := h.2.2.2.2.2.2.2.2.2.2.2.2.2.2.2.2.2.2.2.2.2.2.2.2.2.2.2.2.2.2.2.2.2.2.2.2.2.2.2.2.2.2.2.2.2.2.2.2.2.2.2.2.2.2.1
theorem xModel.s15 (h : xModel sh R M) : sh (M + 16) = (1, 6) := h.2.2.2.2.2.2.2.2.2.2.2.2.2.2.2.2.1
theorem xModel.f15 (h : xModel sh R M) : R M 30 = some (M + 16) := h.2.2.2.2.2.2.2.2.2.2.2.2.2.2.2.2.2.2.2.2.2.2.2.2.2.2.2.2.2.2.2.2.2.2.2.2.2.2.2.2.2.2.2.2.2.2.2.2.2.2.2.2.2.2.2.1
theorem xModel.s16 (h : xModel sh R M) : sh (M + 17) = (1, 6) := h.2.2.2.2.2.2.2.2.2.2.2.2.2.2.2.2.2.1
theorem xModel.f16 (h : xModel sh R M) : R M 31 = some (M + 17) := h.2.2.2.2.2.2.2.2.2.2.2.2.2.2.2.2.2.2.2.2.2.2.2.2.2.2.2.2.2.2.2.2.2.2.2.2.2.2.2.2.2.2.2.2.2.2.2.2.2.2.2.2.2.2.2.2.1
theorem xModel.s17 (h : xModel sh R M) : sh (M + 18) = (2, 100) := h.2.2.2.2.2.2.2.2.2.2.2.2.2.2.2.2.2.2.1
theorem xModel.f17 (h : xModel sh R M) : R M 32 = some (M + 18) := h.2.2.2.2.2.2.2.2.2.2.2.2.2.2.2.2.2.2.2.2.2.2.2.2.2.2.2.2.2.2.2.2.2.2.2.2.2.2.2.2.2.2.2.2.2.2.2.2.2.2.2.2.2.2.2.2.2.1
theorem xModel.s18 (h : xModel sh R M) : sh (M + 19) = (1, 12) := h.2.2.2.2.2.2.2.2.2.2.2.2.2.2.2.2.2.2.2.1
theorem xModel.f18 (h : xModel sh R M) : R M 39 = some (M + 19) := h.2.2.2.2.2.2.2.2.2.2.2.2.2.2.2.2.2.2.2.2.2.2.2.2.2.2.2.2.2.2.2.2.2.2.2.2.2.2.2.2.2.2.2.2.2.2.2.2.2.2.2.2.2.2.2.2.2.2.1
theorem xModel.s19 (h : xModel sh R M) : sh (M + 20) = (1, 36) := h.2.2.2.2.2.2.2.2.2.2.2.2.2.2.2.2.2.2.2.2.1
theorem xModel.f19 (h : xModel sh R M) : R M 40 = some (M + 20) := h.2.2.2.2.2.2.2.2.2.2.2.2.2.2.2.2.2.2.2.2.2.2.2.2.2.2.2.2.2.2.2.2.2.2.2.2.2.2.2.2.2.2.2.2.2.2.2.2.2.2.2.2.2.2.2.2.2.2.2.1
theorem xModel.s20 (h : xModel sh R M) : sh (M + 21) = (1, 6) := h.2.2.2.2.2.2.2.2.2.2.2.2.2.2.2.2.2.2.2.2.2.1
theorem xModel.f20 (h : xModel sh R M) : R M 41 = some (M + 21) := h.2.2.2.2.2.2.2.2.2.2.2.2.2.2.2.2.2.2.2.2.2.2.2.2.2.2.2.2.2.2.2.2.2.2.2.2.2.2.2.2.2.2.2.2.2.2.2.2.2.2.2.2.2.2.2.2.2.2.2.2.1
theorem xModel.s21 (h : xModel sh R M) : sh (M + 22) = (1, 6) := h.2.2.2.2.2.2.2.2.2.2.2.2.2.2.2.2.2.2.2.2.2.2.1
theorem xModel.f21 (h : xModel sh R M) : R M 42 = some (M + 22) := h.2.2.2.2.2.2.2.2.2.2.2.2.2.2.2.2.2.2.2.2.2.2.2.2.2.2.2.2.2.2.2.2.2.2.2.2.2.2.2.2.2.2.2.2.2.2.2.2.2.2.2.2.2.2.2.2.2.2.2.2.2.1
theorem xModel.s22 (h : xModel sh R M) : sh (M + 23) = (1, 5) := h.2.2.2.2.2.2.2.2.2.2.2.2.2.2.2.2.2.2.2.2.2.2.2.1
theorem xModel.f22 (h : xModel sh R M) : R M 43 = some (M + 23) := h.2.2.2.2.2.2.2.2.2.2.2.2.2.2.2.2.2.2.2.2.2.2.2.2.2.2.2.2.2.2.2.2.2.2.2.2.2.2.2.2.2.2.2.2.2.2.2.2.2.2.2.2.2.2.2.2.2.2.2.2.2.2.1
theorem xModel.s23 (h : xModel sh R M) : sh (M + 24) = (1, 6) := h.2.2.2.2.2.2.2.2.2.2.2.2.2.2.2.2.2.2.2.2.2.2.2.2.1
theorem xModel.f23 (h : xModel sh R M) : R M 44 = some (M + 24) := h.2.2.2.2.2.2.2.2.2.2.2.2.2.2.2.2.2.2.2.2.2.2.2.2.2.2.2.2.2.2.2.2.2.2.2.2.2.2.2.2.2.2.2.2.2.2.2.2.2.2.2.2.2.2.2.2.2.2.2.2.2.2.2.1
theorem xModel.s24 (h : xModel sh R M) : sh (M + 25) = (1, 6) := h.2.2.2.2.2.2.2.2.2.2.2.2.2.2.2.2.2.2.2.2.2.2.2.2.2.1
theorem xModel.f24 (h : xModel sh R M) : R M 45 = some (M + 25) := h.2.2.2.2.2.2.2.2.2.2.2.2.2.2.2.2.2.2.2.2.2.2.2.2.2.2.2.2.2.2.2.2.2.2.2.2.2.2.2.2.2.2.2.2.2.2.2.2.2.2.2.2.2.2.2.2.2.2.2.2.2.2.2.2.1
theorem xModel.s25 (h : xModel sh R M) : sh (M + 26) = (1, 10) := h.2.2.2.2.2.2.2.2.2.2.2.2.2.2.2.2.2.2.2.2.2.2.2.2.2.2.1
theorem xModel.f25 (h : xModel sh R M) : R M 47 = some (M + 26) := h.2.2.2.2.2.2.2.2.2.2.2.2.2.2.2.2.2.2.2.2.2.2.2.2.2.2.2.2.2.2.2.2.2.2.2.2.2.2.2.2.2.2.2.2.2.2.2.2.2.2.2.2.2.2.2.2.2.2.2.2.2.2.2.2.2.1
theorem xModel.s26 (h : xModel sh R M) : sh (M + 27) = (1, 6) := h.2.2.2.2.2.2.2.2.2.2.2.2.2.2.2.2.2.2.2.2.2.2.2.2.2.2.2.1
theorem xModel.f26 (h : xModel sh R M) : R M 56 = some (M + 27) := h.2.2.2.2.2.2.2.2.2.2.2.2.2.2.2.2.2.2.2.2.2.2.2.2.2.2.2.2.2.2.2.2.2.2.2.2.2.2.2.2.2.2.2.2.2.2.2.2.2.2.2.2.2.2.2.2.2.2.2.2.2.2.2.2.2.2.1
theorem xModel.s27 (h : xModel sh R M) : sh (M + 28) = (1, 6) := h.2.2.2.2.2.2.2.2.2.2.2.2.2.2.2.2.2.2.2.2.2.2.2.2.2.2.2.2.1
theorem xModel.f27 (h : xModel sh R M) : R M 57 = some (M + 28) := h.2.2.2.2.2.2.2.2.2.2.2.2.2.2.2.2.2.2.2.2.2.2.2.2.2.2.2.2.2.2.2.2.2.2.2.2.2.2.2.2.2.2.2.2.2.2.2.2.2.2.2.2.2.2.2.2.2.2.2.2.2.2.2.2.2.2.2.1
theorem xModel.s28 (h : xModel sh R M) : sh (M + 29) = (1, 6) := h.2.2.2.2.2.2.2.2.2.2.2.2.2.2.2.2.2.2.2.2.2.2.2.2.2.2.2.2.2.1
theorem xModel.f28 (h : xModel sh R M) : R M 58 = some (M + 29) := h.2.2.2.2.2.2.2.2.2.2.2.2.2.2.2.2.2.2.2.2.2.2.2.2.2.2.2.2.2.2.2.2.2.2.2.2.2.2.2.2.2.2.2.2.2.2.2.2.2.2.2.2.2.2.2.2.2.2.2.2.2.2.2.2.2.2.2.2.1
theorem xModel.s29 (h : xModel sh R M) : sh (M + 30) = (1, 6) := h.2.2.2.2.2.2.2.2.2.2.2.2.2.2.2.2.2.2.2.2.2.2.2.2.2.2.2.2.2.2.1
theorem xModel.f29 (h : xModel sh R M) : R M 59 = some (M + 30) := h.2.2.2.2.2.2.2.2.2.2.2.2.2.2.2.2.2.2.2.2.2.2.2.2.2.2.2.2.2.2.2.2.2.2.2.2.2.2.2.2.2.2.2.2.2.2.2.2.2.2.2.2.2.2.2.2.2.2.2.2.2.2.2.2.2.2.2.2.2.1
theorem xModel.s30 (h : xModel sh R M) : sh (M + 31) = (1, 6) := h.2.2.2.2.2.2.2.2.2.2.2.2.2.2.2.2.2.2.2.2.2.2.2.2.2.2.2.2.2.2.2.1
theorem xModel.f30 (h : xModel sh R M) : R M 60 = some (M + 31) := h.2.2.2.2.2.2.2.2.2.2.2.2.2.2.2.2.2.2.2.2.2.2.2.2.2.2.2.2.2.2.2.2.2.2.2.2.2.2.2.2.2.2.2.2.2.2.2.2.2.2.2.2.2.2.2.2.2.2.2.2.2.2.2.2.2.2.2.2.2.2.1
theorem xModel.s31 (h : xModel sh R M) : sh (M + 32) = (1, 6) := h.2.2.2.2.2.2.2.2.2.2.2.2.2.2.2.2.2.2.2.2.2.2.2.2.2.2.2.2.2.2.2.2.1
theorem xModel.f31 (h : xModel sh R M) : R M 61 = some (M + 32) := h.2.2.2.2.2.2.2.2.2.2.2.2.2.2.2.2.2.2.2.2.2.2.2.2.2.2.2.2.2.2.2.2.2.2.2.2.2.2.2.2.2.2.2.2.2.2.2.2.2.2.2.2.2.2.2.2.2.2.2.2.2.2.2.2.2.2.2.2.2.2.2.1
theorem xModel.s32 (h : xModel sh R M) : sh (M + 33) = (1, 12) := h.2.2.2.2.2.2.2.2.2.2.2.2.2.2.2.2.2.2.2.2.2.2.2.2.2.2.2.2.2.2.2.2.2.1
theorem xModel.f32 (h : xModel sh R M) : R M 62 = some (M + 33) := h.2.2.2.2.2.2.2.2.2.2.2.2.2.2.2.2.2.2.2.2.2.2.2.2.2.2.2.2.2.2.2.2.2.2.2.2.2.2.2.2.2.2.2.2.2.2.2.2.2.2.2.2.2.2.2.2.2.2.2.2.2.2.2.2.2.2.2.2.2.2.2.2.1
theorem xModel.s33 (h : xModel sh R M) : sh (M + 34) = (1, 10) := h.2.2.2.2.2.2.2.2.2.2.2.2.2.2.2.2.2.2.2.2.2.2.2.2.2.2.2.2.2.2.2.2.2.2.1
theorem xModel.f33 (h : xModel sh R M) : R M 63 = some (M + 34) := h.2.2.2.2.2.2.2.2.2.2.2.2.2.2.2.2.2.2.2.2.2.2.2.2.2.2.2.2.2.2.2.2.2.2.2.2.2.2.2.2.2.2.2.2.2.2.2.2.2.2.2.2.2.2.2.2.2.2.2.2.2.2.2.2.2.2.2.2.2.2.2.2.2.1
theorem xModel.s34 (h : xModel sh R M) : sh (M + 35) = (1, 20) := h.2.2.2.2.2.2.2.2.2.2.2.2.2.2.2.2.2.2.2.2.2.2.2.2.2.2.2.2.2.2.2.2.2.2.2.1
theorem xModel.f34 (h : xModel sh R M) : R M 65 = some (M + 35) := h.2.2.2.2.2.2.2.2.2.2.2.2.2.2.2.2.2.2.2.2.2.2.2.2.2.2.2.2.2.2.2.2.2.2.2.2.2.2.2.2.2.2.2.2.2.2.2.2.2.2.2.2.2.2.2.2.2.2.2.2.2.2.2.2.2.2.2.2.2.2.2.2.2.2.1
theorem xModel.s35 (h : xModel sh R M) : sh (M + 36) = (1, 6) := h.2.2.2.2.2.2.2.2.2.2.2.2.2.2.2.2.2.2.2.2.2.2.2.2.2.2.2.2.2.2.2.2.2.2.2.2.1
theorem xModel.f35 (h : xModel sh R M) : R M 66 = some (M + 36) := h.2.2.2.2.2.2.2.2.2.2.2.2.2.2.2.2.2.2.2.2.2.2.2.2.2.2.2.2.2.2.2.2.2.2.2.2.2.2.2.2.2.2.2.2.2.2.2.2.2.2.2.2.2.2.2.2.2.2.2.2.2.2.2.2.2.2.2.2.2.2.2.2.2.2.2.1
theorem xModel.s36 (h : xModel sh R M) : sh (M + 37) = (1, 6) := h.2.2.2.2.2.2.2.2.2.2.2.2.2.2.2.2.2.2.2.2.2.2.2.2.2.2.2.2.2.2.2.2.2.2.2.2.2.1
theorem xModel.f36 (h : xModel sh R M) : R M 67 = some (M + 37) := h.2.2.2.2.2.2.2.2.2.2.2.2.2.2.2.2.2.2.2.2.2.2.2.2.2.2.2.2.2.2.2.2.2.2.2.2.2.2.2.2.2.2.2.2.2.2.2.2.2.2.2.2.2.2.2.2.2.2.2.2.2.2.2.2.2.2.2.2.2.2.2.2.2.2.2.2.1
theorem xModel.s37 (h : xModel sh R M) : sh (M + 38) = (3, 360) := h.2.2.2.2.2.2.2.2.2.2.2.2.2.2.2.2.2.2.2.2.2.2.2.2.2.2.2.2.2.2.2.2.2.2.2.2.2.2.1
theorem xModel.f37 (h : xModel sh R M) : R M 68 = some (M + 38) := h.2.2.2.2.2.2.2.2.2.2.2.2.2.2.2.2.2.2.2.2.2.2.2.2.2.2.2.2.2.2.2.2.2.2.2.2.2.2.2.2.2.2.2.2.2.2.2.2.2.2.2.2.2.2.2.2.2.2.2.2.2.2.2.2.2.2.2.2.2.2.2.2.2.2.2.2.2.1
theorem xModel.s38 (h : xModel sh R M) : sh (M + 39) = (3, 60) := h.2.2.2.2.2.2.2.2.2.2.2.2.2.2.2.2.2.2.2.2.2.2.2.2.2.2.2.2.2.2.2.2.2.2.2.2.2.2.2.1
theorem xModel.f38 (h : xModel sh R M) : R M 69 = some (M + 39) := h.2.2.2.2.2.2.2.2.2.2.2.2.2.2.2.2.2.2.2.2.2.2.2.2.2.2.2.2.2.2.2.2.2.2.2.2.2.2.2.2.2.2.2.2.2.2.2.2.2.2.2.2.2.2.2.2.2.2.2.2.2.2.2.2.2.2.2.2.2.2.2.2.2.2.2.2.2.2
end XMODEL

set_option maxHeartbeats 4000000 in
set_option maxRecDepth 100000 in
theorem m_in {T : xT} {n : Nat} {sh : Nat → Nat × Nat} {I : xI} {R : xR} {L : xL} {P : xPost} {M : Nat} (hM : sh M = (0, 10)) {x lo hi : Int32} (K1 : ¬ x < lo → ¬ hi < x → P (n, sh, 0, 0) I R L (some (.int 1))) (K2 : (x < lo ∨ hi < x) → P (n, sh, 0, 0) I R L (some (.int 0))) : XM T zX10_in 0 [.ref M, .int x, .int lo, .int hi] n sh I R L P := by
  refine x_iload_n (pc := 0) dX10_in_0 rfl rfl ?_
  refine x_iload_n (pc := 1) dX10_in_1 rfl rfl ?_
  refine x_icmp_lt (pc := 2) (tgt := 14) dX10_in_2 (by decide) (fun c2 => ?_) (fun c2 => ?_)
  · skip
    refine x_iconst (pc := 14) (v := 0) dX10_in_14 (by decide) ?_
    refine x_ireturn (pc := 15) dX10_in_15 ⟨_, rfl, by decide⟩ ⟨Nat.le_refl _, Nat.le_refl _⟩ ?_
    exact K2 (by first | exact Or.inl c2 | exact Or.inr c7)
  · skip
    refine x_iload_n (pc := 5) dX10_in_5 rfl rfl ?_
    refine x_iload_n (pc := 6) dX10_in_6 rfl rfl ?_
    refine x_icmp_gt (pc := 7) (tgt := 14) dX10_in_7 (by decide) (fun c7 => ?_) (fun c7 => ?_)
    · skip
      refine x_iconst (pc := 14) (v := 0) dX10_in_14 (by decide) ?_
      refine x_ireturn (pc := 15) dX10_in_15 ⟨_, rfl, by decide⟩ ⟨Nat.le_refl _, Nat.le_refl _⟩ ?_
      exact K2 (by first | exact Or.inl c2 | exact Or.inr c7)
    · skip
      refine x_iconst (pc := 10) (v := 1) dX10_in_10 (by decide) ?_
      refine x_goto (pc := 11) (tgt := 15) dX10_in_11 (by decide) ?_
      refine x_ireturn (pc := 15) dX10_in_15 ⟨_, rfl, by decide⟩ ⟨Nat.le_refl _, Nat.le_refl _⟩ ?_
      exact K1 c2 c7

set_option maxHeartbeats 4000000 in
set_option maxRecDepth 100000 in
theorem m_isCell {T : xT} {n : Nat} {sh : Nat → Nat × Nat} {I : xI} {R : xR} {L : xL} {P : xPost} {M : Nat} (hM : sh M = (0, 10)) {x : Int32} (K1 : ∀ k : Nat, k < 36 → x = nI k → P (n, sh, 0, 0) I R L (some (.int 1))) (K2 : (x < 0 ∨ 35 < x) → P (n, sh, 0, 0) I R L (some (.int 0))) : XM T zX10_isCell 1 [.ref M, .int x] n sh I R L P := by
  refine x_aload_n (pc := 0) dX10_isCell_0 rfl rfl ?_
  refine x_iload_n (pc := 1) dX10_isCell_1 rfl rfl ?_
  refine x_iconst (pc := 2) (v := 0) dX10_isCell_2 (by decide) ?_
  refine x_bipush (pc := 3) (v := 35) dX10_isCell_3 (by decide) ?_
  refine x_callV (pc := 5) (As := [.int _, .int _, .int _]) dX10_isCell_5 km_X10_in kv_X10_in kl_RX10_231 hM rfl rfl (by decide) ⟨Nat.le_refl _, Nat.le_refl _⟩ rfl (Nat.le_of_ble_eq_true rfl) (Nat.le_of_ble_eq_true rfl) (m_in hM (fun h1 h2 => ⟨rfl, rfl, ?_⟩) (fun h1 => ⟨rfl, rfl, ?_⟩))
  · skip
    refine x_ireturn (pc := 8) dX10_isCell_8 ⟨_, rfl, by decide⟩ ⟨Nat.le_refl _, Nat.le_refl _⟩ ?_
    exact (c_isCell_k h1 h2).elim (fun k h => K1 k h.1 h.2)
  · skip
    refine x_ireturn (pc := 8) dX10_isCell_8 ⟨_, rfl, by decide⟩ ⟨Nat.le_refl _, Nat.le_refl _⟩ ?_
    exact K2 h1

set_option maxHeartbeats 4000000 in
set_option maxRecDepth 100000 in
theorem m_min {T : xT} {n : Nat} {sh : Nat → Nat × Nat} {I : xI} {R : xR} {L : xL} {P : xPost} {M : Nat} (hM : sh M = (0, 10)) {a b : Nat} (ha : a < 2 ^ 31) (hb : b < 2 ^ 31) (K : P (n, sh, 0, 0) I R L (some (.int (nI (mn a b))))) : XM T zX10_min 0 [.ref M, .int (nI a), .int (nI b)] n sh I R L P := by
  refine x_iload_n (pc := 0) dX10_min_0 rfl rfl ?_
  refine x_iload_n (pc := 1) dX10_min_1 rfl rfl ?_
  refine x_icmpn_ge (pc := 2) (tgt := 9) (a := a) (b := b) dX10_min_2 (by decide) (by omega) (by omega) (fun c2 => ?_) (fun c2 => ?_)
  · skip
    refine x_iload_n (pc := 9) dX10_min_9 rfl rfl ?_
    refine x_ireturn (pc := 10) dX10_min_10 ⟨_, rfl, rfl⟩ ⟨Nat.le_refl _, Nat.le_refl _⟩ ?_
    exact xvi K (by unfold mn; split <;> first | rfl | (congr 1; omega))
  · skip
    refine x_iload_n (pc := 5) dX10_min_5 rfl rfl ?_
    refine x_goto (pc := 6) (tgt := 10) dX10_min_6 (by decide) ?_
    refine x_ireturn (pc := 10) dX10_min_10 ⟨_, rfl, rfl⟩ ⟨Nat.le_refl _, Nat.le_refl _⟩ ?_
    exact xvi K (by unfold mn; split <;> first | rfl | (congr 1; omega))

set_option maxHeartbeats 4000000 in
set_option maxRecDepth 100000 in
theorem m_most {T : xT} {n : Nat} {sh : Nat → Nat × Nat} {I : xI} {R : xR} {L : xL} {P : xPost} {M : Nat} (hM : sh M = (0, 10)) {a b : Nat} (ha : a < 2 ^ 31) (hb : b < 2 ^ 31) (K : P (n, sh, 0, 0) I R L (some (.int (nI (mx a b))))) : XM T zX10_most 0 [.ref M, .int (nI a), .int (nI b)] n sh I R L P := by
  refine x_iload_n (pc := 0) dX10_most_0 rfl rfl ?_
  refine x_iload_n (pc := 1) dX10_most_1 rfl rfl ?_
  refine x_icmpn_ge (pc := 2) (tgt := 9) (a := a) (b := b) dX10_most_2 (by decide) (by omega) (by omega) (fun c2 => ?_) (fun c2 => ?_)
  · skip
    refine x_iload_n (pc := 9) dX10_most_9 rfl rfl ?_
    refine x_ireturn (pc := 10) dX10_most_10 ⟨_, rfl, rfl⟩ ⟨Nat.le_refl _, Nat.le_refl _⟩ ?_
    exact xvi K (by unfold mx; split <;> first | rfl | (congr 1; omega))
  · skip
    refine x_iload_n (pc := 5) dX10_most_5 rfl rfl ?_
    refine x_goto (pc := 6) (tgt := 10) dX10_most_6 (by decide) ?_
    refine x_ireturn (pc := 10) dX10_most_10 ⟨_, rfl, rfl⟩ ⟨Nat.le_refl _, Nat.le_refl _⟩ ?_
    exact xvi K (by unfold mx; split <;> first | rfl | (congr 1; omega))

set_option maxHeartbeats 4000000 in
set_option maxRecDepth 100000 in
theorem m_apart {T : xT} {n : Nat} {sh : Nat → Nat × Nat} {I : xI} {R : xR} {L : xL} {P : xPost} {M : Nat} (hM : sh M = (0, 10)) {a b : Nat} (ha : a < 2 ^ 31) (hb : b < 2 ^ 31) (K : P (n, sh, 0, 0) I R L (some (.int (nI (ap a b))))) : XM T zX10_apart 0 [.ref M, .int (nI a), .int (nI b)] n sh I R L P := by
  refine x_iload_n (pc := 0) dX10_apart_0 rfl rfl ?_
  refine x_iload_n (pc := 1) dX10_apart_1 rfl rfl ?_
  refine x_icmpn_ge (pc := 2) (tgt := 11) (a := a) (b := b) dX10_apart_2 (by decide) (by omega) (by omega) (fun c2 => ?_) (fun c2 => ?_)
  · skip
    refine x_iload_n (pc := 11) dX10_apart_11 rfl rfl ?_
    refine x_iload_n (pc := 12) dX10_apart_12 rfl rfl ?_
    refine x_isubn (pc := 13) (a := a) (b := b) dX10_apart_13 (by omega) ?_
    refine x_ireturn (pc := 14) dX10_apart_14 ⟨_, rfl, rfl⟩ ⟨Nat.le_refl _, Nat.le_refl _⟩ ?_
    exact xvi K (by unfold ap; split <;> first | rfl | (congr 1; omega))
  · skip
    refine x_iload_n (pc := 5) dX10_apart_5 rfl rfl ?_
    refine x_iload_n (pc := 6) dX10_apart_6 rfl rfl ?_
    refine x_isubn (pc := 7) (a := b) (b := a) dX10_apart_7 (by omega) ?_
    refine x_goto (pc := 8) (tgt := 14) dX10_apart_8 (by decide) ?_
    refine x_ireturn (pc := 14) dX10_apart_14 ⟨_, rfl, rfl⟩ ⟨Nat.le_refl _, Nat.le_refl _⟩ ?_
    exact xvi K (by unfold ap; split <;> first | rfl | (congr 1; omega))

set_option maxHeartbeats 4000000 in
set_option maxRecDepth 100000 in
theorem m_far {T : xT} {n : Nat} {sh : Nat → Nat × Nat} {I : xI} {R : xR} {L : xL} {P : xPost} {M : Nat} (hM : sh M = (0, 10)) {a b : Nat} (ha : a < 36) (hb : b < 36) (K : P (n, sh, 0, 0) I R L (some (.int (nI (far a b))))) : XM T zX10_far 1 [.ref M, .int (nI a), .int (nI b)] n sh I R L P := by
  have hp1 := ap_lt (a := a / 6) (b := b / 6) (m := 6) (by omega) (by omega)
  have hp2 := ap_lt (a := a % 6) (b := b % 6) (m := 6) (by omega) (by omega)
  refine x_aload_n (pc := 0) dX10_far_0 rfl rfl ?_
  refine x_aload_n (pc := 1) dX10_far_1 rfl rfl ?_
  refine x_iload_n (pc := 2) dX10_far_2 rfl rfl ?_
  refine x_bipush (pc := 3) (v := 6) dX10_far_3 (by decide) ?_
  refine x_idivn (pc := 5) (a := a) (b := 6) dX10_far_5 (by omega) (by decide) (by decide) ?_
  refine x_iload_n (pc := 6) dX10_far_6 rfl rfl ?_
  refine x_bipush (pc := 7) (v := 6) dX10_far_7 (by decide) ?_
  refine x_idivn (pc := 9) (a := b) (b := 6) dX10_far_9 (by omega) (by decide) (by decide) ?_
  refine x_callV (pc := 10) (As := [.int _, .int _]) dX10_far_10 km_X10_apart kv_X10_apart kl_RX10_224 hM rfl rfl (by decide) ⟨Nat.le_refl _, Nat.le_refl _⟩ rfl (Nat.le_of_ble_eq_true rfl) (Nat.le_of_ble_eq_true rfl) (m_apart hM (by omega) (by omega) (⟨rfl, rfl, ?_⟩))
  refine x_aload_n (pc := 13) dX10_far_13 rfl rfl ?_
  refine x_iload_n (pc := 14) dX10_far_14 rfl rfl ?_
  refine x_bipush (pc := 15) (v := 6) dX10_far_15 (by decide) ?_
  refine x_iremn (pc := 17) (a := a) (b := 6) dX10_far_17 (by omega) (by decide) (by decide) ?_
  refine x_iload_n (pc := 18) dX10_far_18 rfl rfl ?_
  refine x_bipush (pc := 19) (v := 6) dX10_far_19 (by decide) ?_
  refine x_iremn (pc := 21) (a := b) (b := 6) dX10_far_21 (by omega) (by decide) (by decide) ?_
  refine x_callV (pc := 22) (As := [.int _, .int _]) dX10_far_22 km_X10_apart kv_X10_apart kl_RX10_224 hM rfl rfl (by decide) ⟨Nat.le_refl _, Nat.le_refl _⟩ rfl (Nat.le_of_ble_eq_true rfl) (Nat.le_of_ble_eq_true rfl) (m_apart hM (by omega) (by omega) (⟨rfl, rfl, ?_⟩))
  refine x_callV (pc := 25) (As := [.int _, .int _]) dX10_far_25 km_X10_most kv_X10_most kl_RX10_228 hM rfl rfl (by decide) ⟨Nat.le_refl _, Nat.le_refl _⟩ rfl (Nat.le_of_ble_eq_true rfl) (Nat.le_of_ble_eq_true rfl) (m_most hM (by omega) (by omega) (⟨rfl, rfl, ?_⟩))
  refine x_ireturn (pc := 28) dX10_far_28 ⟨_, rfl, rfl⟩ ⟨Nat.le_refl _, Nat.le_refl _⟩ ?_
  exact K

set_option maxHeartbeats 4000000 in
set_option maxRecDepth 100000 in
theorem m_round {T : xT} {n : Nat} {sh : Nat → Nat × Nat} {I : xI} {R : xR} {L : xL} {P : xPost} {M : Nat} (hM : sh M = (0, 10)) {a b : Nat} (ha : a < 36) (hb : b < 36) (K : P (n, sh, 0, 0) I R L (some (.int (nI (rnd a b))))) : XM T zX10_round 1 [.ref M, .int (nI a), .int (nI b)] n sh I R L P := by
  have hp1 := ap_lt (a := a / 6) (b := b / 6) (m := 6) (by omega) (by omega)
  have hp2 := ap_lt (a := a % 6) (b := b % 6) (m := 6) (by omega) (by omega)
  refine x_aload_n (pc := 0) dX10_round_0 rfl rfl ?_
  refine x_iload_n (pc := 1) dX10_round_1 rfl rfl ?_
  refine x_bipush (pc := 2) (v := 6) dX10_round_2 (by decide) ?_
  refine x_idivn (pc := 4) (a := a) (b := 6) dX10_round_4 (by omega) (by decide) (by decide) ?_
  refine x_iload_n (pc := 5) dX10_round_5 rfl rfl ?_
  refine x_bipush (pc := 6) (v := 6) dX10_round_6 (by decide) ?_
  refine x_idivn (pc := 8) (a := b) (b := 6) dX10_round_8 (by omega) (by decide) (by decide) ?_
  refine x_callV (pc := 9) (As := [.int _, .int _]) dX10_round_9 km_X10_apart kv_X10_apart kl_RX10_224 hM rfl rfl (by decide) ⟨Nat.le_refl _, Nat.le_refl _⟩ rfl (Nat.le_of_ble_eq_true rfl) (Nat.le_of_ble_eq_true rfl) (m_apart hM (by omega) (by omega) (⟨rfl, rfl, ?_⟩))
  refine x_aload_n (pc := 12) dX10_round_12 rfl rfl ?_
  refine x_iload_n (pc := 13) dX10_round_13 rfl rfl ?_
  refine x_bipush (pc := 14) (v := 6) dX10_round_14 (by decide) ?_
  refine x_iremn (pc := 16) (a := a) (b := 6) dX10_round_16 (by omega) (by decide) (by decide) ?_
  refine x_iload_n (pc := 17) dX10_round_17 rfl rfl ?_
  refine x_bipush (pc := 18) (v := 6) dX10_round_18 (by decide) ?_
  refine x_iremn (pc := 20) (a := b) (b := 6) dX10_round_20 (by omega) (by decide) (by decide) ?_
  refine x_callV (pc := 21) (As := [.int _, .int _]) dX10_round_21 km_X10_apart kv_X10_apart kl_RX10_224 hM rfl rfl (by decide) ⟨Nat.le_refl _, Nat.le_refl _⟩ rfl (Nat.le_of_ble_eq_true rfl) (Nat.le_of_ble_eq_true rfl) (m_apart hM (by omega) (by omega) (⟨rfl, rfl, ?_⟩))
  refine x_iaddn (pc := 24) (a := (ap (a / 6) (b / 6))) (b := (ap (a % 6) (b % 6))) dX10_round_24 ?_
  refine x_ireturn (pc := 25) dX10_round_25 ⟨_, rfl, rfl⟩ ⟨Nat.le_refl _, Nat.le_refl _⟩ ?_
  exact K

set_option maxHeartbeats 4000000 in
set_option maxRecDepth 100000 in
theorem m_beside {T : xT} {n : Nat} {sh : Nat → Nat × Nat} {I : xI} {R : xR} {L : xL} {P : xPost} {M c s : Nat} (hc : c < 36) (hs : s < 4) (K1 : ∀ z, nxt c s = some z → P (n, sh, 0, 0) I R L (some (.int (nI z)))) (K2 : nxt c s = none → P (n, sh, 0, 0) I R L (some (.int (-1)))) : XM T zX10_beside 0 [.ref M, .int (nI c), .int (nI s)] n sh I R L P := by
  match s, hs with
  | 0, _ =>
    rw [show nI 0 = 0 from rfl]
    refine x_iload_n (pc := 0) dX10_beside_0 rfl rfl ?_
    refine x_tsw (pc := 1) (dt := 74) [(0, 28), (1, 43), (2, 58)] dX10_beside_1 (by decide +kernel) (by decide) ?_
    refine xsw_c (fun _ => ?_) (fun h => absurd rfl h)
    refine x_iload_n (pc := 28) dX10_beside_28 rfl rfl ?_
    refine x_bipush (pc := 29) (v := 6) dX10_beside_29 (by decide) ?_
    refine x_icmpn_ge (pc := 31) (tgt := 38) (a := c) (b := 6) dX10_beside_31 (by decide) (by omega) (by decide) (fun c31 => ?_) (fun c31 => ?_)
    · skip
      refine x_iload_n (pc := 38) dX10_beside_38 rfl rfl ?_
      refine x_bipush (pc := 39) (v := 6) dX10_beside_39 (by decide) ?_
      refine x_isubn (pc := 41) (a := c) (b := 6) dX10_beside_41 (by omega) ?_
      refine x_ireturn (pc := 42) dX10_beside_42 ⟨_, rfl, rfl⟩ ⟨Nat.le_refl _, Nat.le_refl _⟩ ?_
      exact K1 _ (by simp [nxt] <;> omega)
    · skip
      refine x_iconst (pc := 34) (v := -1) dX10_beside_34 (by decide) ?_
      refine x_goto (pc := 35) (tgt := 42) dX10_beside_35 (by decide) ?_
      refine x_ireturn (pc := 42) dX10_beside_42 ⟨_, rfl, rfl⟩ ⟨Nat.le_refl _, Nat.le_refl _⟩ ?_
      exact K2 (by simp [nxt] <;> omega)
  | 1, _ =>
    rw [show nI 1 = 1 from rfl]
    refine x_iload_n (pc := 0) dX10_beside_0 rfl rfl ?_
    refine x_tsw (pc := 1) (dt := 74) [(0, 28), (1, 43), (2, 58)] dX10_beside_1 (by decide +kernel) (by decide) ?_
    refine xsw_c (fun h => absurd h (by decide)) (fun _ => ?_)
    refine xsw_c (fun _ => ?_) (fun h => absurd rfl h)
    refine x_iload_n (pc := 43) dX10_beside_43 rfl rfl ?_
    refine x_bipush (pc := 44) (v := 6) dX10_beside_44 (by decide) ?_
    refine x_iremn (pc := 46) (a := c) (b := 6) dX10_beside_46 (by omega) (by decide) (by decide) ?_
    refine x_ifn_ne (pc := 47) (tgt := 54) (a := (c % 6)) dX10_beside_47 (by decide) (by omega) (fun c47 => ?_) (fun c47 => ?_)
    · skip
      refine x_iload_n (pc := 54) dX10_beside_54 rfl rfl ?_
      refine x_iconst (pc := 55) (v := 1) dX10_beside_55 (by decide) ?_
      refine x_isubn (pc := 56) (a := c) (b := 1) dX10_beside_56 (by omega) ?_
      refine x_ireturn (pc := 57) dX10_beside_57 ⟨_, rfl, rfl⟩ ⟨Nat.le_refl _, Nat.le_refl _⟩ ?_
      exact K1 _ (by simp [nxt] <;> omega)
    · skip
      refine x_iconst (pc := 50) (v := -1) dX10_beside_50 (by decide) ?_
      refine x_goto (pc := 51) (tgt := 57) dX10_beside_51 (by decide) ?_
      refine x_ireturn (pc := 57) dX10_beside_57 ⟨_, rfl, rfl⟩ ⟨Nat.le_refl _, Nat.le_refl _⟩ ?_
      exact K2 (by simp [nxt] <;> omega)
  | 2, _ =>
    rw [show nI 2 = 2 from rfl]
    refine x_iload_n (pc := 0) dX10_beside_0 rfl rfl ?_
    refine x_tsw (pc := 1) (dt := 74) [(0, 28), (1, 43), (2, 58)] dX10_beside_1 (by decide +kernel) (by decide) ?_
    refine xsw_c (fun h => absurd h (by decide)) (fun _ => ?_)
    refine xsw_c (fun h => absurd h (by decide)) (fun _ => ?_)
    refine xsw_c (fun _ => ?_) (fun h => absurd rfl h)
    refine x_iload_n (pc := 58) dX10_beside_58 rfl rfl ?_
    refine x_bipush (pc := 59) (v := 6) dX10_beside_59 (by decide) ?_
    refine x_iremn (pc := 61) (a := c) (b := 6) dX10_beside_61 (by omega) (by decide) (by decide) ?_
    refine x_iconst (pc := 62) (v := 5) dX10_beside_62 (by decide) ?_
    refine x_icmpn_ne (pc := 63) (tgt := 70) (a := (c % 6)) (b := 5) dX10_beside_63 (by decide) (by omega) (by decide) (fun c63 => ?_) (fun c63 => ?_)
    · skip
      refine x_iload_n (pc := 70) dX10_beside_70 rfl rfl ?_
      refine x_iconst (pc := 71) (v := 1) dX10_beside_71 (by decide) ?_
      refine x_iaddn (pc := 72) (a := c) (b := 1) dX10_beside_72 ?_
      refine x_ireturn (pc := 73) dX10_beside_73 ⟨_, rfl, rfl⟩ ⟨Nat.le_refl _, Nat.le_refl _⟩ ?_
      exact K1 _ (by simp [nxt] <;> omega)
    · skip
      refine x_iconst (pc := 66) (v := -1) dX10_beside_66 (by decide) ?_
      refine x_goto (pc := 67) (tgt := 73) dX10_beside_67 (by decide) ?_
      refine x_ireturn (pc := 73) dX10_beside_73 ⟨_, rfl, rfl⟩ ⟨Nat.le_refl _, Nat.le_refl _⟩ ?_
      exact K2 (by simp [nxt] <;> omega)
  | 3, _ =>
    rw [show nI 3 = 3 from rfl]
    refine x_iload_n (pc := 0) dX10_beside_0 rfl rfl ?_
    refine x_tsw (pc := 1) (dt := 74) [(0, 28), (1, 43), (2, 58)] dX10_beside_1 (by decide +kernel) (by decide) ?_
    refine xsw_c (fun h => absurd h (by decide)) (fun _ => ?_)
    refine xsw_c (fun h => absurd h (by decide)) (fun _ => ?_)
    refine xsw_c (fun h => absurd h (by decide)) (fun _ => ?_)
    refine xsw_n ?_
    refine x_iload_n (pc := 74) dX10_beside_74 rfl rfl ?_
    refine x_bipush (pc := 75) (v := 29) dX10_beside_75 (by decide) ?_
    refine x_icmpn_le (pc := 77) (tgt := 84) (a := c) (b := 29) dX10_beside_77 (by decide) (by omega) (by decide) (fun c77 => ?_) (fun c77 => ?_)
    · skip
      refine x_iload_n (pc := 84) dX10_beside_84 rfl rfl ?_
      refine x_bipush (pc := 85) (v := 6) dX10_beside_85 (by decide) ?_
      refine x_iaddn (pc := 87) (a := c) (b := 6) dX10_beside_87 ?_
      refine x_ireturn (pc := 88) dX10_beside_88 ⟨_, rfl, rfl⟩ ⟨Nat.le_refl _, Nat.le_refl _⟩ ?_
      exact K1 _ (by simp [nxt] <;> omega)
    · skip
      refine x_iconst (pc := 80) (v := -1) dX10_beside_80 (by decide) ?_
      refine x_goto (pc := 81) (tgt := 88) dX10_beside_81 (by decide) ?_
      refine x_ireturn (pc := 88) dX10_beside_88 ⟨_, rfl, rfl⟩ ⟨Nat.le_refl _, Nat.le_refl _⟩ ?_
      exact K2 (by simp [nxt] <;> omega)

set_option maxHeartbeats 4000000 in
set_option maxRecDepth 100000 in
theorem lm_isTaken {T : xT} {n : Nat} {sh : Nat → Nat × Nat} {I : xI} {R : xR} {L : xL} {P : xPost} {M nb : Nat} {ce : Nat → Nat} (hM : xModel sh R M) (hnb : I M 0 = nI nb) (hn6 : nb ≤ 6) (hc : ∀ i, i < nb → I (M + 16) i = nI (ce i)) (hce : ∀ i, i < nb → ce i < 36) {x : Nat} (hx : x < 36) (K1 : held nb ce x = true → P (n, sh, 0, 0) I R L (some (.int 1))) (K2 : held nb ce x = false → P (n, sh, 0, 0) I R L (some (.int 0))) : ∀ (w i : Nat), i + w = nb → (∀ j, j < i → ¬ ce j = x) → X T zX10_isTaken 0 0 0 P 2 [(0, .ref M), (1, .int (nI x)), (2, .int (nI i))] [] (n, sh, 0, 0) (I) R L := by
  intro w
  induction w with
  | zero =>
    intro i hw hno
    have hz : i = nb := by omega
    refine x_iload_n (pc := 2) dX10_isTaken_2 rfl rfl ?_
    refine x_aload_n (pc := 3) dX10_isTaken_3 rfl rfl ?_
    refine x_get (pc := 4) dX10_isTaken_4 kf_RX10_7 hM.s rfl ?_
    rw [hnb]
    refine x_icmpn_ge_t (pc := 7) (tgt := 28) (a := i) (b := nb) dX10_isTaken_7 (by decide) (by omega) (by omega) (by omega) ?_
    refine x_iconst (pc := 28) (v := 0) dX10_isTaken_28 (by decide) ?_
    refine x_ireturn (pc := 29) dX10_isTaken_29 ⟨_, rfl, by decide⟩ ⟨Nat.le_refl _, Nat.le_refl _⟩ ?_
    exact K2 (held_f (fun j hj => hno j (by omega)))
  | succ w ih =>
    intro i hw hno
    have hi : i < nb := by omega
    refine x_iload_n (pc := 2) dX10_isTaken_2 rfl rfl ?_
    refine x_aload_n (pc := 3) dX10_isTaken_3 rfl rfl ?_
    refine x_get (pc := 4) dX10_isTaken_4 kf_RX10_7 hM.s rfl ?_
    rw [hnb]
    refine x_icmpn_ge_f (pc := 7) (tgt := 28) (a := i) (b := nb) dX10_isTaken_7 (by decide) (by omega) (by omega) (by omega) ?_
    refine x_aload_n (pc := 10) dX10_isTaken_10 rfl rfl ?_
    refine x_getr (pc := 11) dX10_isTaken_11 kf_RX10_101 hM.s rfl hM.f15 ?_
    refine x_iload_n (pc := 14) dX10_isTaken_14 rfl rfl ?_
    refine x_ialdn (pc := 15) (a := i) dX10_isTaken_15 hM.s15 (by omega) (by omega) ?_
    rw [hc i hi]
    have hci := hce i hi
    refine x_iload_n (pc := 16) dX10_isTaken_16 rfl rfl ?_
    refine x_icmpn_ne (pc := 17) (tgt := 22) (a := (ce i)) (b := x) dX10_isTaken_17 (by decide) (by omega) (by omega) (fun c17 => ?_) (fun c17 => ?_)
    · skip
      refine x_iinc (pc := 22) (v := nI (i + 1)) (lv' := [(0, .ref M), (1, .int (nI x)), (2, .int (nI (i + 1)))]) dX10_isTaken_22 rfl (nI_1 _) (by decide) rfl ?_
      refine x_goto (pc := 25) (tgt := 2) dX10_isTaken_25 (by decide) ?_
      exact ih (i + 1) (by omega) (fun j hj9 => (Nat.lt_succ_iff_lt_or_eq.mp hj9).elim (hno j) (fun e9 => by subst e9; exact c17))
    · skip
      refine x_iconst (pc := 20) (v := 1) dX10_isTaken_20 (by decide) ?_
      refine x_ireturn (pc := 21) dX10_isTaken_21 ⟨_, rfl, by decide⟩ ⟨Nat.le_refl _, Nat.le_refl _⟩ ?_
      exact K1 (held_t.mpr ⟨i, hi, c17⟩)

set_option maxHeartbeats 4000000 in
set_option maxRecDepth 100000 in
theorem m_isTaken {T : xT} {n : Nat} {sh : Nat → Nat × Nat} {I : xI} {R : xR} {L : xL} {P : xPost} {M nb : Nat} {ce : Nat → Nat} (hM : xModel sh R M) (hnb : I M 0 = nI nb) (hn6 : nb ≤ 6) (hc : ∀ i, i < nb → I (M + 16) i = nI (ce i)) (hce : ∀ i, i < nb → ce i < 36) {x : Nat} (hx : x < 36) (K1 : held nb ce x = true → P (n, sh, 0, 0) I R L (some (.int 1))) (K2 : held nb ce x = false → P (n, sh, 0, 0) I R L (some (.int 0))) : XM T zX10_isTaken 0 [.ref M, .int (nI x)] n sh I R L P := by
  refine x_iconst (pc := 0) (v := 0) dX10_isTaken_0 (by decide) ?_
  refine x_istore_n (pc := 1) (lv' := [(0, .ref M), (1, .int (nI x)), (2, .int 0)]) dX10_isTaken_1 rfl (by decide) rfl ?_
  exact lm_isTaken hM hnb hn6 hc hce hx K1 K2 nb 0 (by omega) (fun j hj => absurd hj (by omega))

set_option maxHeartbeats 4000000 in
set_option maxRecDepth 100000 in
theorem lm_caught {T : xT} {n : Nat} {sh : Nat → Nat × Nat} {I : xI} {R : xR} {L : xL} {P : xPost} {M nb : Nat} {ce : Nat → Nat} (hM : xModel sh R M) (hnb : I M 0 = nI nb) (hn6 : nb ≤ 6) (hc : ∀ i, i < nb → I (M + 16) i = nI (ce i)) (hce : ∀ i, i < nb → ce i < 36) {ta : Nat} (hta : I M 27 = nI ta) (ht : ta < 36) (K1 : ∀ i, i < nb → ce i = ta → (∀ j, j < i → ¬ ce j = ta) → P (n, sh, 0, 0) I R L (some (.int (nI i)))) (K2 : (∀ j, j < nb → ¬ ce j = ta) → P (n, sh, 0, 0) I R L (some (.int (-1)))) : ∀ (w i : Nat), i + w = nb → (∀ j, j < i → ¬ ce j = ta) → X T zX10_caught 0 0 0 P 2 [(0, .ref M), (1, .int (nI i))] [] (n, sh, 0, 0) (I) R L := by
  intro w
  induction w with
  | zero =>
    intro i hw hno
    have hz : i = nb := by omega
    refine x_iload_n (pc := 2) dX10_caught_2 rfl rfl ?_
    refine x_aload_n (pc := 3) dX10_caught_3 rfl rfl ?_
    refine x_get (pc := 4) dX10_caught_4 kf_RX10_7 hM.s rfl ?_
    rw [hnb]
    refine x_icmpn_ge_t (pc := 7) (tgt := 31) (a := i) (b := nb) dX10_caught_7 (by decide) (by omega) (by omega) (by omega) ?_
    refine x_iconst (pc := 31) (v := -1) dX10_caught_31 (by decide) ?_
    refine x_ireturn (pc := 32) dX10_caught_32 ⟨_, rfl, rfl⟩ ⟨Nat.le_refl _, Nat.le_refl _⟩ ?_
    exact K2 (fun j hj => hno j (by omega))
  | succ w ih =>
    intro i hw hno
    have hi : i < nb := by omega
    refine x_iload_n (pc := 2) dX10_caught_2 rfl rfl ?_
    refine x_aload_n (pc := 3) dX10_caught_3 rfl rfl ?_
    refine x_get (pc := 4) dX10_caught_4 kf_RX10_7 hM.s rfl ?_
    rw [hnb]
    refine x_icmpn_ge_f (pc := 7) (tgt := 31) (a := i) (b := nb) dX10_caught_7 (by decide) (by omega) (by omega) (by omega) ?_
    refine x_aload_n (pc := 10) dX10_caught_10 rfl rfl ?_
    refine x_getr (pc := 11) dX10_caught_11 kf_RX10_101 hM.s rfl hM.f15 ?_
    refine x_iload_n (pc := 14) dX10_caught_14 rfl rfl ?_
    refine x_ialdn (pc := 15) (a := i) dX10_caught_15 hM.s15 (by omega) (by omega) ?_
    rw [hc i hi]
    have hci := hce i hi
    refine x_aload_n (pc := 16) dX10_caught_16 rfl rfl ?_
    refine x_get (pc := 17) dX10_caught_17 kf_RX10_92 hM.s rfl ?_
    rw [hta]
    refine x_icmpn_ne (pc := 20) (tgt := 25) (a := (ce i)) (b := ta) dX10_caught_20 (by decide) (by omega) (by omega) (fun c20 => ?_) (fun c20 => ?_)
    · skip
      refine x_iinc (pc := 25) (v := nI (i + 1)) (lv' := [(0, .ref M), (1, .int (nI (i + 1)))]) dX10_caught_25 rfl (nI_1 _) (by decide) rfl ?_
      refine x_goto (pc := 28) (tgt := 2) dX10_caught_28 (by decide) ?_
      exact ih (i + 1) (by omega) (fun j hj9 => (Nat.lt_succ_iff_lt_or_eq.mp hj9).elim (hno j) (fun e9 => by subst e9; exact c20))
    · skip
      refine x_iload_n (pc := 23) dX10_caught_23 rfl rfl ?_
      refine x_ireturn (pc := 24) dX10_caught_24 ⟨_, rfl, rfl⟩ ⟨Nat.le_refl _, Nat.le_refl _⟩ ?_
      exact K1 i hi c20 hno

set_option maxHeartbeats 4000000 in
set_option maxRecDepth 100000 in
theorem m_caught {T : xT} {n : Nat} {sh : Nat → Nat × Nat} {I : xI} {R : xR} {L : xL} {P : xPost} {M nb : Nat} {ce : Nat → Nat} (hM : xModel sh R M) (hnb : I M 0 = nI nb) (hn6 : nb ≤ 6) (hc : ∀ i, i < nb → I (M + 16) i = nI (ce i)) (hce : ∀ i, i < nb → ce i < 36) {ta : Nat} (hta : I M 27 = nI ta) (ht : ta < 36) (K1 : ∀ i, i < nb → ce i = ta → (∀ j, j < i → ¬ ce j = ta) → P (n, sh, 0, 0) I R L (some (.int (nI i)))) (K2 : (∀ j, j < nb → ¬ ce j = ta) → P (n, sh, 0, 0) I R L (some (.int (-1)))) : XM T zX10_caught 0 [.ref M] n sh I R L P := by
  refine x_iconst (pc := 0) (v := 0) dX10_caught_0 (by decide) ?_
  refine x_istore_n (pc := 1) (lv' := [(0, .ref M), (1, .int 0)]) dX10_caught_1 rfl (by decide) rfl ?_
  exact lm_caught hM hnb hn6 hc hce hta ht K1 K2 nb 0 (by omega) (fun j hj => absurd hj (by omega))

set_option maxHeartbeats 4000000 in
set_option maxRecDepth 100000 in
theorem lm_nearOf {T : xT} {n : Nat} {sh : Nat → Nat × Nat} {I : xI} {R : xR} {L : xL} {P : xPost} {M nb : Nat} {ce : Nat → Nat} (hM : xModel sh R M) (hnb : I M 0 = nI nb) (hn6 : nb ≤ 6) (hc : ∀ i, i < nb → I (M + 16) i = nI (ce i)) (hce : ∀ i, i < nb → ce i < 36) {bi : Nat} (hb : bi < nb) (K : P (n, sh, 0, 0) I R L (some (.int (nI (nearN nb ce bi))))) : ∀ (w i : Nat), i + w = nb → X T zX10_nearOf 2 0 0 P 4 [(0, .ref M), (1, .int (nI bi)), (2, .int (nI (cnt (nearP ce bi) i))), (3, .int (nI i))] [] (n, sh, 0, 0) (I) R L := by
  intro w
  induction w with
  | zero =>
    intro i hw
    have hz : i = nb := by omega
    refine x_iload_n (pc := 4) dX10_nearOf_4 rfl rfl ?_
    refine x_aload_n (pc := 5) dX10_nearOf_5 rfl rfl ?_
    refine x_get (pc := 6) dX10_nearOf_6 kf_RX10_7 hM.s rfl ?_
    rw [hnb]
    refine x_icmpn_ge_t (pc := 9) (tgt := 51) (a := i) (b := nb) dX10_nearOf_9 (by decide) (by omega) (by omega) (by omega) ?_
    refine x_iload_n (pc := 51) dX10_nearOf_51 rfl rfl ?_
    refine x_ireturn (pc := 52) dX10_nearOf_52 ⟨_, rfl, rfl⟩ ⟨Nat.le_refl _, Nat.le_refl _⟩ ?_
    rw [hz]
    exact K
  | succ w ih =>
    intro i hw
    have hi : i < nb := by omega
    have hcl := cnt_le (p := nearP ce bi) i
    refine x_iload_n (pc := 4) dX10_nearOf_4 rfl rfl ?_
    refine x_aload_n (pc := 5) dX10_nearOf_5 rfl rfl ?_
    refine x_get (pc := 6) dX10_nearOf_6 kf_RX10_7 hM.s rfl ?_
    rw [hnb]
    refine x_icmpn_ge_f (pc := 9) (tgt := 51) (a := i) (b := nb) dX10_nearOf_9 (by decide) (by omega) (by omega) (by omega) ?_
    refine x_iload_n (pc := 12) dX10_nearOf_12 rfl rfl ?_
    refine x_iload_n (pc := 13) dX10_nearOf_13 rfl rfl ?_
    refine x_iload_n (pc := 14) dX10_nearOf_14 rfl rfl ?_
    refine x_icmpn_eq (pc := 15) (tgt := 42) (a := i) (b := bi) dX10_nearOf_15 (by decide) (by omega) (by omega) (fun c15 => ?_) (fun c15 => ?_)
    · skip
      refine x_iconst (pc := 42) (v := 0) dX10_nearOf_42 (by decide) ?_
      refine x_iaddn (pc := 43) (a := (cnt (nearP ce bi) i)) (b := 0) dX10_nearOf_43 ?_
      rw [Nat.add_zero]
      refine x_istore_n (pc := 44) (lv' := [(0, .ref M), (1, .int (nI bi)), (2, .int (nI (cnt (nearP ce bi) i))), (3, .int (nI i))]) dX10_nearOf_44 rfl (by decide) rfl ?_
      refine x_iinc (pc := 45) (v := nI (i + 1)) (lv' := [(0, .ref M), (1, .int (nI bi)), (2, .int (nI (cnt (nearP ce bi) i))), (3, .int (nI (i + 1)))]) dX10_nearOf_45 rfl (nI_1 _) (by decide) rfl ?_
      refine x_goto (pc := 48) (tgt := 4) dX10_nearOf_48 (by decide) ?_
      have h := ih (i + 1) (by omega)
      rw [cnt_n (p := nearP ce bi) (i := i) (by unfold nearP; simp [c15])] at h
      exact h
    · skip
      refine x_aload_n (pc := 18) dX10_nearOf_18 rfl rfl ?_
      refine x_aload_n (pc := 19) dX10_nearOf_19 rfl rfl ?_
      refine x_getr (pc := 20) dX10_nearOf_20 kf_RX10_101 hM.s rfl hM.f15 ?_
      refine x_iload_n (pc := 23) dX10_nearOf_23 rfl rfl ?_
      refine x_ialdn (pc := 24) (a := i) dX10_nearOf_24 hM.s15 (by omega) (by omega) ?_
      rw [hc i hi]
      refine x_aload_n (pc := 25) dX10_nearOf_25 rfl rfl ?_
      refine x_getr (pc := 26) dX10_nearOf_26 kf_RX10_101 hM.s rfl hM.f15 ?_
      refine x_iload_n (pc := 29) dX10_nearOf_29 rfl rfl ?_
      refine x_ialdn (pc := 30) (a := bi) dX10_nearOf_30 hM.s15 (by omega) (by omega) ?_
      rw [hc bi hb]
      refine x_callV (pc := 31) (As := [.int _, .int _]) dX10_nearOf_31 km_X10_far kv_X10_far kl_RX10_301 hM.s rfl rfl (by decide) ⟨Nat.le_refl _, Nat.le_refl _⟩ rfl (Nat.le_of_ble_eq_true rfl) (Nat.le_of_ble_eq_true rfl) (m_far hM.s (hce _ hi) (hce _ hb) (⟨rfl, rfl, ?_⟩))
      have hfl := far_lt (hce _ hi) (hce _ hb)
      refine x_iconst (pc := 34) (v := 2) dX10_nearOf_34 (by decide) ?_
      refine x_icmpn_gt (pc := 35) (tgt := 42) (a := (far (ce i) (ce bi))) (b := 2) dX10_nearOf_35 (by decide) (by omega) (by decide) (fun c35 => ?_) (fun c35 => ?_)
      · skip
        refine x_iconst (pc := 42) (v := 0) dX10_nearOf_42 (by decide) ?_
        refine x_iaddn (pc := 43) (a := (cnt (nearP ce bi) i)) (b := 0) dX10_nearOf_43 ?_
        rw [Nat.add_zero]
        refine x_istore_n (pc := 44) (lv' := [(0, .ref M), (1, .int (nI bi)), (2, .int (nI (cnt (nearP ce bi) i))), (3, .int (nI i))]) dX10_nearOf_44 rfl (by decide) rfl ?_
        refine x_iinc (pc := 45) (v := nI (i + 1)) (lv' := [(0, .ref M), (1, .int (nI bi)), (2, .int (nI (cnt (nearP ce bi) i))), (3, .int (nI (i + 1)))]) dX10_nearOf_45 rfl (nI_1 _) (by decide) rfl ?_
        refine x_goto (pc := 48) (tgt := 4) dX10_nearOf_48 (by decide) ?_
        have h := ih (i + 1) (by omega)
        rw [cnt_n (p := nearP ce bi) (i := i) (by unfold nearP; simp; intro _; omega)] at h
        exact h
      · skip
        refine x_iconst (pc := 38) (v := 1) dX10_nearOf_38 (by decide) ?_
        refine x_goto (pc := 39) (tgt := 43) dX10_nearOf_39 (by decide) ?_
        refine x_iaddn (pc := 43) (a := (cnt (nearP ce bi) i)) (b := 1) dX10_nearOf_43 ?_
        refine x_istore_n (pc := 44) (lv' := [(0, .ref M), (1, .int (nI bi)), (2, .int (nI (cnt (nearP ce bi) i + 1))), (3, .int (nI i))]) dX10_nearOf_44 rfl (by decide) rfl ?_
        refine x_iinc (pc := 45) (v := nI (i + 1)) (lv' := [(0, .ref M), (1, .int (nI bi)), (2, .int (nI (cnt (nearP ce bi) i + 1))), (3, .int (nI (i + 1)))]) dX10_nearOf_45 rfl (nI_1 _) (by decide) rfl ?_
        refine x_goto (pc := 48) (tgt := 4) dX10_nearOf_48 (by decide) ?_
        have h := ih (i + 1) (by omega)
        rw [cnt_y (p := nearP ce bi) (i := i) (by unfold nearP; simp; exact ⟨c15, c35⟩)] at h
        exact h

set_option maxHeartbeats 4000000 in
set_option maxRecDepth 100000 in
theorem m_nearOf {T : xT} {n : Nat} {sh : Nat → Nat × Nat} {I : xI} {R : xR} {L : xL} {P : xPost} {M nb : Nat} {ce : Nat → Nat} (hM : xModel sh R M) (hnb : I M 0 = nI nb) (hn6 : nb ≤ 6) (hc : ∀ i, i < nb → I (M + 16) i = nI (ce i)) (hce : ∀ i, i < nb → ce i < 36) {bi : Nat} (hb : bi < nb) (K : P (n, sh, 0, 0) I R L (some (.int (nI (nearN nb ce bi))))) : XM T zX10_nearOf 2 [.ref M, .int (nI bi)] n sh I R L P := by
  refine x_iconst (pc := 0) (v := 0) dX10_nearOf_0 (by decide) ?_
  refine x_istore_n (pc := 1) (lv' := [(0, .ref M), (1, .int (nI bi)), (2, .int 0)]) dX10_nearOf_1 rfl (by decide) rfl ?_
  refine x_iconst (pc := 2) (v := 0) dX10_nearOf_2 (by decide) ?_
  refine x_istore_n (pc := 3) (lv' := [(0, .ref M), (1, .int (nI bi)), (2, .int 0), (3, .int 0)]) dX10_nearOf_3 rfl (by decide) rfl ?_
  exact lm_nearOf hM hnb hn6 hc hce hb K nb 0 (by omega)

set_option maxHeartbeats 4000000 in
set_option maxRecDepth 100000 in
theorem lm_closedOf {T : xT} {n : Nat} {sh : Nat → Nat × Nat} {I : xI} {R : xR} {L : xL} {P : xPost} {M nb : Nat} {ce : Nat → Nat} (hM : xModel sh R M) (hnb : I M 0 = nI nb) (hn6 : nb ≤ 6) (hc : ∀ i, i < nb → I (M + 16) i = nI (ce i)) (hce : ∀ i, i < nb → ce i < 36) {bi : Nat} (hb : bi < nb) (K : P (n, sh, 0, 0) I R L (some (.int (nI (shutN nb ce (ce bi)))))) : ∀ (w i : Nat), i + w = 4 → X T zX10_closedOf 1 0 0 P 4 [(0, .ref M), (1, .int (nI bi)), (2, .int (nI (cnt (shutP nb ce (ce bi)) i))), (3, .int (nI i))] [] (n, sh, 0, 0) (I) R L := by
  have hcb := hce bi hb
  intro w
  induction w with
  | zero =>
    intro i hw
    have hz : i = 4 := by omega
    refine x_iload_n (pc := 4) dX10_closedOf_4 rfl rfl ?_
    refine x_iconst (pc := 5) (v := 4) dX10_closedOf_5 (by decide) ?_
    refine x_icmpn_ge_t (pc := 6) (tgt := 50) (a := i) (b := 4) dX10_closedOf_6 (by decide) (by omega) (by decide) (by omega) ?_
    refine x_iload_n (pc := 50) dX10_closedOf_50 rfl rfl ?_
    refine x_ireturn (pc := 51) dX10_closedOf_51 ⟨_, rfl, rfl⟩ ⟨Nat.le_refl _, Nat.le_refl _⟩ ?_
    rw [hz]
    exact K
  | succ w ih =>
    intro i hw
    have hi : i < 4 := by omega
    have hcl := cnt_le (p := shutP nb ce (ce bi)) i
    refine x_iload_n (pc := 4) dX10_closedOf_4 rfl rfl ?_
    refine x_iconst (pc := 5) (v := 4) dX10_closedOf_5 (by decide) ?_
    refine x_icmpn_ge_f (pc := 6) (tgt := 50) (a := i) (b := 4) dX10_closedOf_6 (by decide) (by omega) (by decide) (by omega) ?_
    refine x_aload_n (pc := 9) dX10_closedOf_9 rfl rfl ?_
    refine x_aload_n (pc := 10) dX10_closedOf_10 rfl rfl ?_
    refine x_getr (pc := 11) dX10_closedOf_11 kf_RX10_101 hM.s rfl hM.f15 ?_
    refine x_iload_n (pc := 14) dX10_closedOf_14 rfl rfl ?_
    refine x_ialdn (pc := 15) (a := bi) dX10_closedOf_15 hM.s15 (by omega) (by omega) ?_
    rw [hc bi hb]
    refine x_iload_n (pc := 16) dX10_closedOf_16 rfl rfl ?_
    refine x_callV (pc := 17) (As := [.int _, .int _]) dX10_closedOf_17 km_X10_beside kv_X10_beside kl_RX10_304 hM.s rfl rfl (by decide) ⟨Nat.le_refl _, Nat.le_refl _⟩ rfl (Nat.le_of_ble_eq_true rfl) (Nat.le_of_ble_eq_true rfl) (m_beside hcb hi (fun z hnx => ⟨rfl, rfl, ?_⟩) (fun hno => ⟨rfl, rfl, ?_⟩))
    · skip
      have hz36 := nxt_lt hcb hnx
      refine x_istore (pc := 20) (lv' := [(0, .ref M), (1, .int (nI bi)), (2, .int (nI (cnt (shutP nb ce (ce bi)) i))), (3, .int (nI i)), (4, .int (nI z))]) dX10_closedOf_20 (by decide) rfl ?_
      refine x_iload_n (pc := 22) dX10_closedOf_22 rfl rfl ?_
      refine x_iload (pc := 23) dX10_closedOf_23 rfl ?_
      refine x_ifn_lt (pc := 25) (a := z) dX10_closedOf_25 ⟨37, by decide⟩ (by omega) ?_
      refine x_aload_n (pc := 28) dX10_closedOf_28 rfl rfl ?_
      refine x_iload (pc := 29) dX10_closedOf_29 rfl ?_
      refine x_callV (pc := 31) (As := [.int _]) dX10_closedOf_31 km_X10_isTaken kv_X10_isTaken kl_RX10_307 hM.s rfl rfl (by decide) ⟨Nat.le_refl _, Nat.le_refl _⟩ rfl (Nat.le_of_ble_eq_true rfl) (Nat.le_of_ble_eq_true rfl) (m_isTaken (x := z) hM hnb hn6 hc hce hz36 (fun hh => ⟨rfl, rfl, ?_⟩) (fun hf => ⟨rfl, rfl, ?_⟩))
      · skip
        refine x_if_eq_f (pc := 34) (tgt := 41) dX10_closedOf_34 (by decide) (by decide) ?_
        refine x_iconst (pc := 37) (v := 1) dX10_closedOf_37 (by decide) ?_
        refine x_goto (pc := 38) (tgt := 42) dX10_closedOf_38 (by decide) ?_
        refine x_iaddn (pc := 42) (a := (cnt (shutP nb ce (ce bi)) i)) (b := 1) dX10_closedOf_42 ?_
        refine x_istore_n (pc := 43) (lv' := [(0, .ref M), (1, .int (nI bi)), (2, .int (nI ((cnt (shutP nb ce (ce bi)) i) + 1))), (3, .int (nI i)), (4, .int (nI z))]) dX10_closedOf_43 rfl (by decide) rfl ?_
        refine x_iinc (pc := 44) (v := nI (i + 1)) (lv' := [(0, .ref M), (1, .int (nI bi)), (2, .int (nI ((cnt (shutP nb ce (ce bi)) i) + 1))), (3, .int (nI (i + 1))), (4, .int (nI z))]) dX10_closedOf_44 rfl (nI_1 _) (by decide) rfl ?_
        refine x_goto (pc := 47) (tgt := 4) dX10_closedOf_47 (by decide) ?_
        have h := ih (i + 1) (by omega)
        rw [cnt_y (p := shutP nb ce (ce bi)) (i := i) (by unfold shutP; rw [hnx]; exact hh)] at h
        exact X.keep [0, 1, 2, 3] rfl h
      · skip
        refine x_if_eq_t (pc := 34) (tgt := 41) dX10_closedOf_34 (by decide) (by decide) ?_
        refine x_iconst (pc := 41) (v := 0) dX10_closedOf_41 (by decide) ?_
        refine x_iaddn (pc := 42) (a := (cnt (shutP nb ce (ce bi)) i)) (b := 0) dX10_closedOf_42 ?_
        rw [Nat.add_zero]
        refine x_istore_n (pc := 43) (lv' := [(0, .ref M), (1, .int (nI bi)), (2, .int (nI (cnt (shutP nb ce (ce bi)) i))), (3, .int (nI i)), (4, .int (nI z))]) dX10_closedOf_43 rfl (by decide) rfl ?_
        refine x_iinc (pc := 44) (v := nI (i + 1)) (lv' := [(0, .ref M), (1, .int (nI bi)), (2, .int (nI (cnt (shutP nb ce (ce bi)) i))), (3, .int (nI (i + 1))), (4, .int (nI z))]) dX10_closedOf_44 rfl (nI_1 _) (by decide) rfl ?_
        refine x_goto (pc := 47) (tgt := 4) dX10_closedOf_47 (by decide) ?_
        have h := ih (i + 1) (by omega)
        rw [cnt_n (p := shutP nb ce (ce bi)) (i := i) (by unfold shutP; rw [hnx]; exact hf)] at h
        exact X.keep [0, 1, 2, 3] rfl h
    · skip
      refine x_istore (pc := 20) (lv' := [(0, .ref M), (1, .int (nI bi)), (2, .int (nI (cnt (shutP nb ce (ce bi)) i))), (3, .int (nI i)), (4, .int (-1))]) dX10_closedOf_20 (by decide) rfl ?_
      refine x_iload_n (pc := 22) dX10_closedOf_22 rfl rfl ?_
      refine x_iload (pc := 23) dX10_closedOf_23 rfl ?_
      refine x_if_lt_t (pc := 25) (tgt := 37) dX10_closedOf_25 (by decide) (by decide) ?_
      refine x_iconst (pc := 37) (v := 1) dX10_closedOf_37 (by decide) ?_
      refine x_goto (pc := 38) (tgt := 42) dX10_closedOf_38 (by decide) ?_
      refine x_iaddn (pc := 42) (a := (cnt (shutP nb ce (ce bi)) i)) (b := 1) dX10_closedOf_42 ?_
      refine x_istore_n (pc := 43) (lv' := [(0, .ref M), (1, .int (nI bi)), (2, .int (nI ((cnt (shutP nb ce (ce bi)) i) + 1))), (3, .int (nI i)), (4, .int (-1))]) dX10_closedOf_43 rfl (by decide) rfl ?_
      refine x_iinc (pc := 44) (v := nI (i + 1)) (lv' := [(0, .ref M), (1, .int (nI bi)), (2, .int (nI ((cnt (shutP nb ce (ce bi)) i) + 1))), (3, .int (nI (i + 1))), (4, .int (-1))]) dX10_closedOf_44 rfl (nI_1 _) (by decide) rfl ?_
      refine x_goto (pc := 47) (tgt := 4) dX10_closedOf_47 (by decide) ?_
      have h := ih (i + 1) (by omega)
      rw [cnt_y (p := shutP nb ce (ce bi)) (i := i) (by unfold shutP; rw [hno])] at h
      exact X.keep [0, 1, 2, 3] rfl h

set_option maxHeartbeats 4000000 in
set_option maxRecDepth 100000 in
theorem m_closedOf {T : xT} {n : Nat} {sh : Nat → Nat × Nat} {I : xI} {R : xR} {L : xL} {P : xPost} {M nb : Nat} {ce : Nat → Nat} (hM : xModel sh R M) (hnb : I M 0 = nI nb) (hn6 : nb ≤ 6) (hc : ∀ i, i < nb → I (M + 16) i = nI (ce i)) (hce : ∀ i, i < nb → ce i < 36) {bi : Nat} (hb : bi < nb) (K : P (n, sh, 0, 0) I R L (some (.int (nI (shutN nb ce (ce bi)))))) : XM T zX10_closedOf 1 [.ref M, .int (nI bi)] n sh I R L P := by
  refine x_iconst (pc := 0) (v := 0) dX10_closedOf_0 (by decide) ?_
  refine x_istore_n (pc := 1) (lv' := [(0, .ref M), (1, .int (nI bi)), (2, .int 0)]) dX10_closedOf_1 rfl (by decide) rfl ?_
  refine x_iconst (pc := 2) (v := 0) dX10_closedOf_2 (by decide) ?_
  refine x_istore_n (pc := 3) (lv' := [(0, .ref M), (1, .int (nI bi)), (2, .int 0), (3, .int 0)]) dX10_closedOf_3 rfl (by decide) rfl ?_
  exact lm_closedOf hM hnb hn6 hc hce hb K 4 0 (by omega)

