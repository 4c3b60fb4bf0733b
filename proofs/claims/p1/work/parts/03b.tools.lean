/-! THE ENGINE: a small machine over numbers, run by the kernel; its soundness over the kit's rows stands behind it. A value is a pair: (0, n) the int n, (1, n) the long n, (2, i) the i-th cell, (3, _) null, (4, k) the k-th unknown int, (5, _) null or some reference, (6, b) a float, (7, b) a double, (8, j) the j-th text, (9, j) its bytes, (10, L) the script; (99, _) nothing. -/
noncomputable section
def e_tget (n : Nat) : e_T n → Nat → Option e_C := Nat.rec (motive := fun n => e_T n → Nat → Option e_C) (fun t _ => t) (fun _ ih t i => Prod.rec (motive := fun _ => Option e_C) (fun a b => cond (Nat.beq (Nat.mod i 2) 0) (ih a (Nat.div i 2)) (ih b (Nat.div i 2))) t) n
def e_tset (n : Nat) : e_T n → Nat → Option e_C → e_T n := Nat.rec (motive := fun n => e_T n → Nat → Option e_C → e_T n) (fun _ _ v => v) (fun n ih t i v => Prod.rec (motive := fun _ => e_T n × e_T n) (fun a b => cond (Nat.beq (Nat.mod i 2) 0) (ih a (Nat.div i 2) v, b) (a, ih b (Nat.div i 2) v)) t) n
def e_tnew (n : Nat) : e_T n := Nat.rec (motive := e_T) (none : Option e_C) (fun _ ih => (ih, ih)) n
def e_nth (l : List e_V) : Nat → e_V := List.rec (motive := fun _ => Nat → e_V) (fun _ => (99, 0)) (fun v _ ih k => Nat.rec (motive := fun _ => e_V) v (fun k' _ => ih k') k) l
def e_put (l : List e_V) : Nat → e_V → List e_V := List.rec (motive := fun _ => Nat → e_V → List e_V) (fun _ _ => []) (fun u t ih k v => Nat.rec (motive := fun _ => List e_V) (v :: t) (fun k' _ => u :: ih k' v) k) l
def e_drop (k : Nat) : List e_E → List e_E := Nat.rec (motive := fun _ => List e_E → List e_E) (fun l => l) (fun _ ih l => List.rec (motive := fun _ => List e_E) [] (fun _ t _ => ih t) l) k
def e_get (l : List (Nat × e_V)) : Nat → e_V → e_V := List.rec (motive := fun _ => Nat → e_V → e_V) (fun _ d => d) (fun q _ ih k d => cond (Nat.beq q.1 k) q.2 (ih k d)) l
def e_set (l : List (Nat × e_V)) : Nat → e_V → List (Nat × e_V) := List.rec (motive := fun _ => Nat → e_V → List (Nat × e_V)) (fun k v => [(k, v)]) (fun q t ih k v => cond (Nat.beq q.1 k) ((k, v) :: t) (q :: ih k v)) l
def e_iv (l : e_I) : Nat → Nat × Nat := List.rec (motive := fun _ => Nat → Nat × Nat) (fun _ => (0, 4294967295)) (fun v _ ih k => Nat.rec (motive := fun _ => Nat × Nat) v (fun k' _ => ih k') k) l
def e_ivp (l : e_I) : Nat → Nat × Nat → e_I := List.rec (motive := fun _ => Nat → Nat × Nat → e_I) (fun _ _ => []) (fun u t ih k v => Nat.rec (motive := fun _ => e_I) (v :: t) (fun k' _ => u :: ih k' v) k) l
def e_ov (l : List Nat) : Nat → Nat := List.rec (motive := fun _ => Nat → Nat) (fun _ => 0) (fun y _ ih k => Nat.rec (motive := fun _ => Nat) y (fun k' _ => ih k') k) l
end
