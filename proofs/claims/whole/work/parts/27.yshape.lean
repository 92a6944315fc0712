/-! ===== the class's objects: CocoaYard 200, its parts 201 .. 226; vessel v: 1000 + v, its row of DRY 2000 + v ===== -/
def yT : Nat → Nat × Nat := fun g => match g with
  | 200 => (11, 0) | 201 => (25, 100) | 202 => (2, 0) | 203 => (21, 60) | 204 => (22, 60) | 205 => (7, 0) | 206 => (23, 200)
  | 207 => (10, 0) | 208 => (26, 50) | 209 => (6, 0) | 210 => (22, 9) | 211 => (22, 9)
  | 212 => (5, 0) | 213 => (27, 100) | 214 => (21, 20) | 215 => (2, 0) | 216 => (21, 60) | 217 => (22, 60)
  | 218 => (1, 0) | 219 => (21, 20) | 221 => (3, 0) | 222 => (21, 60) | 223 => (21, 60) | 224 => (21, 60) | 225 => (21, 60) | 226 => (21, 60)
  | _ => (0, 0)
def yR : Nat → Nat → Option Nat := fun g k => match g, k with
  | 200, 0 => some 201 | 200, 4 => some 202 | 200, 5 => some 205 | 200, 6 => some 207 | 200, 7 => some 212 | 200, 8 => some 221
  | 202, 0 => some 203 | 202, 1 => some 204 | 205, 0 => some 206
  | 207, 0 => some 208 | 207, 1 => some 209 | 209, 0 => some 210 | 209, 1 => some 211
  | 212, 0 => some 213 | 212, 1 => some 214 | 212, 2 => some 215 | 212, 3 => some 218
  | 215, 0 => some 216 | 215, 1 => some 217 | 218, 0 => some 219
  | 221, 0 => some 222 | 221, 1 => some 223 | 221, 2 => some 224 | 221, 3 => some 225 | 221, 4 => some 226
  | _, _ => none
def YOK (S : GS) : Prop := (∀ g, (yT g).1 ≠ 0 → kd S g = (yT g).1 ∧ ln S g = (yT g).2) ∧ ∀ g k r, yR g k = some r → rf S g k = some r
theorem YOK.k {S : GS} (h : YOK S) (g c : Nat) (hk : (yT g).1 = c) (hc : c ≠ 0) : kd S g = c := by rw [(h.1 g (by rw [hk]; exact hc)).1, hk]
theorem YOK.l {S : GS} (h : YOK S) (g N : Nat) (hk : (yT g).2 = N) (hc : (yT g).1 ≠ 0) : ln S g = N := by rw [(h.1 g hc).2, hk]
theorem YOK.r {S : GS} (h : YOK S) (g k r : Nat) (hr : yR g k = some r) : rf S g k = some r := h.2 g k r hr
def YVes (S : GS) (A : AV) : Prop := fI S 200 1 = nI (vn A) ∧ (∀ v, v < vn A → (rf S 201 v = some (1000 + v) ∧ kd S (1000 + v) = 8 ∧ rf S (1000 + v) 1 = some (2000 + v) ∧ kd S (2000 + v) = 21 ∧ ln S (2000 + v) = 60) ∧ fI S (1000 + v) 0 = nI (vK A v) ∧ fI S (1000 + v) 2 = nI (vdry A v) ∧ fI S (1000 + v) 3 = nI (vW A v) ∧ fI S (1000 + v) 4 = nI (vT A v) ∧ fI S (1000 + v) 5 = nI (vM A v) ∧ fI S (1000 + v) 6 = nI (vG A v) ∧ fI S (1000 + v) 7 = nI (vC A v) ∧ ∀ p, p < 60 → aI S (2000 + v) p = nI (vD A v p))
  ∧ ∀ v, vn A ≤ v → v < 100 → kd S (1000 + v) = 0 ∧ kd S (2000 + v) = 0
section
variable {S : GS} {A : AV} (h : YVes S A)
theorem YVes.n {S : GS} {A : AV} (h : YVes S A) : fI S 200 1 = nI (vn A) := h.1
theorem YVes.el {S : GS} {A : AV} (h : YVes S A) (v : Nat) (hv : v < vn A) : rf S 201 v = some (1000 + v) := (h.2.1 v hv).1.1
theorem YVes.ok {S : GS} {A : AV} (h : YVes S A) (v : Nat) (hv : v < vn A) : kd S (1000 + v) = 7 + 1 := (h.2.1 v hv).1.2.1
theorem YVes.dr {S : GS} {A : AV} (h : YVes S A) (v : Nat) (hv : v < vn A) : rf S (1000 + v) 1 = some (2000 + v) := (h.2.1 v hv).1.2.2.1
theorem YVes.dk {S : GS} {A : AV} (h : YVes S A) (v : Nat) (hv : v < vn A) : kd S (2000 + v) = 21 := (h.2.1 v hv).1.2.2.2.1
theorem YVes.dl {S : GS} {A : AV} (h : YVes S A) (v : Nat) (hv : v < vn A) : ln S (2000 + v) = 60 := (h.2.1 v hv).1.2.2.2.2
theorem YVes.K {S : GS} {A : AV} (h : YVes S A) (v : Nat) (hv : v < vn A) : fI S (1000 + v) 0 = nI (vK A v) := (h.2.1 v hv).2.1
theorem YVes.Y {S : GS} {A : AV} (h : YVes S A) (v : Nat) (hv : v < vn A) : fI S (1000 + v) 2 = nI (vdry A v) := (h.2.1 v hv).2.2.1
theorem YVes.W {S : GS} {A : AV} (h : YVes S A) (v : Nat) (hv : v < vn A) : fI S (1000 + v) 3 = nI (vW A v) := (h.2.1 v hv).2.2.2.1
theorem YVes.T {S : GS} {A : AV} (h : YVes S A) (v : Nat) (hv : v < vn A) : fI S (1000 + v) 4 = nI (vT A v) := (h.2.1 v hv).2.2.2.2.1
theorem YVes.M {S : GS} {A : AV} (h : YVes S A) (v : Nat) (hv : v < vn A) : fI S (1000 + v) 5 = nI (vM A v) := (h.2.1 v hv).2.2.2.2.2.1
theorem YVes.G {S : GS} {A : AV} (h : YVes S A) (v : Nat) (hv : v < vn A) : fI S (1000 + v) 6 = nI (vG A v) := (h.2.1 v hv).2.2.2.2.2.2.1
theorem YVes.C {S : GS} {A : AV} (h : YVes S A) (v : Nat) (hv : v < vn A) : fI S (1000 + v) 7 = nI (vC A v) := (h.2.1 v hv).2.2.2.2.2.2.2.1
theorem YVes.D {S : GS} {A : AV} (h : YVes S A) (v : Nat) (hv : v < vn A) (p : Nat) (hp : p < 60) : aI S (2000 + v) p = nI (vD A v p) := (h.2.1 v hv).2.2.2.2.2.2.2.2 p hp
end
