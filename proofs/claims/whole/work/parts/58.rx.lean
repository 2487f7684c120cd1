theorem zRlx {X : List (Nat × Int × Int)} {b : Int} {Z Y : qz_Z} {k : Nat} {i j a : Int} (h : zRx X b Z Y) (e : adr k i j = some a) (hn : (k, i, j) ∉ X) : Z k b i j = Y 2 0 0 a := h k i j a e hn
