/-! layouts: the class's cost -/
theorem wS_add {a b : Int → Int} : ∀ n : Nat, wS (fun i => a i + b i) n = wS a n + wS b n
  | 0 => rfl
  | n + 1 => by
    have ih := wS_add (a := a) (b := b) n
    show wS (fun i => a i + b i) n + (a n + b n) = (wS a n + a n) + (wS b n + b n)
    omega
/-- a square of numbers, summed by its triangles -/
theorem wS_tri {f : Int → Int → Int} : ∀ n : Nat, wS (fun i => wS (f i) n) n = wS (fun i => f i i + wS (fun j => f i j + f j i) i.toNat) n
  | 0 => rfl
  | n + 1 => by
    have ih := wS_tri (f := f) n
    have e1 : wS (fun i => wS (f i) (n + 1)) n = wS (fun i => wS (f i) n) n + wS (fun i => f i n) n := wS_add n
    have e2 : wS (fun j => f n j + f j n) n = wS (f n) n + wS (fun j => f j n) n := wS_add n
    show wS (fun i => wS (f i) (n + 1)) n + (wS (f n) n + f n n) = wS (fun i => f i i + wS (fun j => f i j + f j i) i.toNat) n + (f n n + wS (fun j => f n j + f j n) (n : Int).toNat)
    rw [show (n : Int).toNat = n by omega]
    omega
