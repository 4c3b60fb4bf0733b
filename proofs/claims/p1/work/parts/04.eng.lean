/-! THE ENGINE. A value is a pair: (0, n) the int n, (1, n) the long n, (2, i) the i-th cell, (3, _) null, (4, k) the k-th unknown int, (5, _) null or some reference, (6, b) a float, (7, b) a double, (8, j) the j-th text, (9, j) its bytes, (10, L) the script, (11, j) a word moved down so that its j-th byte is lowest, (13, _) some int, (14, k) the k-th unknown int as a long; (99, _) nothing. The unknown ints: 0 to 5 the script, 6 its first and 63, 7 to 26 the bytes of 1 to 5, 27 to 47 how many of the first bytes are not 0. -/
noncomputable section
def e_off (n : Nat) : Nat := Nat.mod (Nat.add n 2147483648) 4294967296
def e_ib (k : Nat) : Unit × (Nat → Nat → Nat) :=
  cond (Nat.ble k 3) (cond (Nat.beq k 1) ((), fun a b => Nat.mod (Nat.add a b) 4294967296) (cond (Nat.beq k 2) ((), fun a b => e_u (e_i a - e_i b)) ((), fun a b => Nat.mod (Nat.mul a b) 4294967296)))
    (cond (Nat.ble k 6) (cond (Nat.beq k 4) ((), fun a b => e_u (e_i a &&& e_i b)) (cond (Nat.beq k 5) ((), fun a b => e_u (e_i a ||| e_i b)) ((), fun a b => e_u (e_i a ^^^ e_i b))))
      (cond (Nat.ble k 8) (cond (Nat.beq k 7) ((), fun a b => e_u (e_i a <<< (e_i b &&& 31))) ((), fun a b => e_u (e_i a >>> (e_i b &&& 31))))
        (cond (Nat.beq k 9) ((), fun a b => e_u ((e_i a).toUInt32 >>> ((e_i b).toUInt32 &&& Int32.toUInt32 31)).toInt32) (cond (Nat.beq k 10) ((), fun a b => e_u (e_i a / e_i b)) ((), fun a b => e_u (e_i a - e_i a / e_i b * e_i b))))))
def e_lb (k : Nat) : Unit × (Nat → Nat → Nat) :=
  cond (Nat.beq k 1) ((), fun a b => e_ul (e_l a + e_l b)) (cond (Nat.beq k 3) ((), fun a b => e_ul (e_l a * e_l b)) (cond (Nat.beq k 4) ((), fun a b => e_ul (e_l a &&& e_l b)) (cond (Nat.beq k 5) ((), fun a b => e_ul (e_l a ||| e_l b)) ((), fun a b => e_ul (e_l a ^^^ e_l b)))))
def e_ls (k : Nat) : Unit × (Nat → Nat → Nat) :=
  cond (Nat.beq k 7) ((), fun a b => e_ul (e_l a <<< ((e_i b).toInt64 &&& 63))) (cond (Nat.beq k 8) ((), fun a b => e_ul (e_l a >>> ((e_i b).toInt64 &&& 63))) ((), fun a b => e_ul ((e_l a).toUInt64 >>> ((e_i b).toInt64.toUInt64 &&& Int64.toUInt64 63)).toInt64))
/-- the range of an int, moved up by 2^31 -/
def e_rng (iv : e_I) (v : e_V) : Nat × Nat := cond (Nat.beq v.1 0) (e_off v.2, e_off v.2) (e_iv iv v.2)
/-- kinds: 0 int, 1 long, 2 reference, 3 float, 4 double -/
def e_is (k t : Nat) : Bool :=
  cond (Nat.beq k 0) (cond (Nat.beq t 0) true (Nat.beq t 4)) (cond (Nat.beq k 1) (Nat.beq t 1) (cond (Nat.beq k 2) (cond (Nat.beq t 2) true (cond (Nat.beq t 3) true (cond (Nat.beq t 5) true (cond (Nat.ble t 7) false (Nat.ble t 10))))) (cond (Nat.beq k 3) (Nat.beq t 6) (Nat.beq t 7))))
def e_cat2 (t : Nat) : Bool := cond (Nat.beq t 1) true (cond (Nat.beq t 7) true (Nat.beq t 14))
def e_eqV (a b : e_V) : Bool := cond (Nat.beq a.1 b.1) (Nat.beq a.2 b.2) false
/-- a jump: forward from behind the instruction, or backward from the method's start -/
def e_jmp (all tl : List e_E) (x : Nat) : List e_E := cond (Nat.beq (Nat.mod x 2) 0) (e_drop (Nat.div x 2) tl) (e_drop (Nat.div x 2) all)
def e_store (l : List e_V) (i : Nat) (v : e_V) : List e_V :=
  Nat.rec (motive := fun _ => List e_V) (cond (e_cat2 v.1) (e_put (e_put l i v) (Nat.succ i) (99, 0)) (e_put l i v)) (fun j _ => cond (e_cat2 (e_nth l j).1) (e_put (cond (e_cat2 v.1) (e_put (e_put l i v) (Nat.succ i) (99, 0)) (e_put l i v)) j (99, 0)) (cond (e_cat2 v.1) (e_put (e_put l i v) (Nat.succ i) (99, 0)) (e_put l i v))) i
def e_entry (n : Nat) : List e_V → List e_V := Nat.rec (motive := fun _ => List e_V → List e_V) (fun _ => []) (fun _ ih vs => List.rec (motive := fun _ => List e_V) ((99, 0) :: ih []) (fun v t _ => v :: ih (cond (e_cat2 v.1) ((99, 0) :: t) t)) vs) n
def e_take (k : Nat) : List e_V → List e_V → List e_V := Nat.rec (motive := fun _ => List e_V → List e_V → List e_V) (fun acc _ => acc) (fun _ ih acc st => List.rec (motive := fun _ => List e_V) acc (fun v t _ => ih (v :: acc) t) st) k
def e_pops (k : Nat) : List e_V → List e_V := Nat.rec (motive := fun _ => List e_V → List e_V) (fun l => l) (fun _ ih l => List.rec (motive := fun _ => List e_V) [] (fun _ t _ => ih t) l) k
def e_zero (k : Nat) : e_V := cond (Nat.beq k 1) (0, 0) (cond (Nat.beq k 2) (0, 0) (cond (Nat.beq k 3) (1, 0) (3, 0)))
/-- the handler of an exception, by a method's table: (from, to, class, place): 0, or the place and 1 -/
def e_hnd (l : List (Nat × Nat × Nat × Nat)) (pc E : Nat) : Nat := List.rec (motive := fun _ => Nat) 0 (fun q _ ih => cond (cond (Nat.ble q.1 pc) (cond (Nat.ble (Nat.succ pc) q.2.1) (Nat.beq q.2.2.1 E) false) false) (Nat.succ q.2.2.2) ih) l
def e_hpc (l : List e_E) : Nat := List.rec (motive := fun _ => Nat) 0 (fun q _ _ => q.1) l
/-- split the unknown int k behind c -/
def e_sp (ih : e_A) (cod : List e_E) (I : e_N) (loc stk : List e_V) (fs : List e_F) (w : e_W) (iv : e_I) (k c : Nat) : Bool :=
  cond (ih I cod loc stk fs w (e_ivp iv k ((e_iv iv k).1, c))) (ih I cod loc stk fs w (e_ivp iv k (Nat.succ c, (e_iv iv k).2))) false
/-- go on with an int as a number -/
def e_conR (r : Nat × Nat) (k : Nat) (kk : Nat → Bool) (ks : Nat → Nat → Bool) : Bool := cond (Nat.beq r.1 r.2) (kk (e_off r.1)) (cond (Nat.ble r.2 (Nat.add r.1 70)) (ks k r.1) false)
def e_con (iv : e_I) (v : e_V) (kk : Nat → Bool) (ks : Nat → Nat → Bool) : Bool := cond (Nat.beq v.1 0) (kk v.2) (cond (Nat.beq v.1 4) (e_conR (e_iv iv v.2) v.2 kk ks) false)
/-- a < b, by their ranges -/
def e_ltR (ra rb : Nat × Nat) (a b : e_V) (kt kf : Bool) (ks : Nat → Nat → Bool) : Bool :=
  cond (Nat.ble (Nat.succ ra.2) rb.1) kt (cond (Nat.ble rb.2 ra.1) kf (cond (Nat.beq a.1 4) (cond (Nat.beq b.1 0) (ks a.2 (Nat.pred rb.1)) (ks a.2 ra.1)) (ks b.2 ra.1)))
def e_eqR (ra rb : Nat × Nat) (a b : e_V) (kt kf : Bool) (ks : Nat → Nat → Bool) : Bool :=
  cond (Nat.ble (Nat.succ ra.2) rb.1) kf (cond (Nat.ble (Nat.succ rb.2) ra.1) kf
    (cond (Nat.beq ra.1 ra.2) (cond (Nat.beq rb.1 rb.2) kt (cond (Nat.ble ra.1 rb.1) (ks b.2 ra.1) (ks b.2 (Nat.pred ra.1))))
      (cond (Nat.ble rb.1 ra.1) (ks a.2 ra.1) (ks a.2 (Nat.pred rb.1)))))
/-- conditions: 0 eq, 1 ne, 2 lt, 3 ge, 4 gt, 5 le -/
def e_cmp (iv : e_I) (cc : Nat) (a b : e_V) (kt kf : Bool) (ks : Nat → Nat → Bool) : Bool :=
  cond (cond (e_is 0 a.1) (e_is 0 b.1) false) (cond (Nat.ble cc 1) (cond (Nat.beq cc 0) (e_eqR (e_rng iv a) (e_rng iv b) a b kt kf ks) (e_eqR (e_rng iv a) (e_rng iv b) a b kf kt ks))
    (cond (Nat.ble cc 3) (cond (Nat.beq cc 2) (e_ltR (e_rng iv a) (e_rng iv b) a b kt kf ks) (e_ltR (e_rng iv a) (e_rng iv b) a b kf kt ks)) (cond (Nat.beq cc 4) (e_ltR (e_rng iv b) (e_rng iv a) b a kt kf ks) (e_ltR (e_rng iv b) (e_rng iv a) b a kf kt ks)))) false
def e_q1 (stk : List e_V) (k : e_V → List e_V → Bool) : Bool := List.rec (motive := fun _ => Bool) false (fun v st _ => k v st) stk
def e_q2 (stk : List e_V) (k : e_V → e_V → List e_V → Bool) : Bool := e_q1 stk (fun v st => e_q1 st (fun u s2 => k v u s2))
def e_rm (I : e_N) (n : Nat) (k : e_N → Bool) : Bool :=
  cond (Nat.ble (Nat.succ I.2.2.1) (e_bud I.1).1) (cond (Nat.ble (Nat.add I.2.2.2.1 n) (e_bud I.1).2.1) (k (I.1, I.2.1, Nat.succ I.2.2.1, Nat.add I.2.2.2.1 n, I.2.2.2.2)) false) false
def e_cell (w : e_W) (v : e_V) (k : e_C → Bool) : Bool := cond (Nat.beq v.1 2) (Option.rec (motive := fun _ => Bool) false k (e_tget 9 w.2 v.2)) false
/-- known bytes -/
def e_kz (iv : e_I) (j : Nat) : Bool := cond (Nat.ble 2147483648 (e_iv iv (Nat.add 7 j)).1) (Nat.ble (e_iv iv (Nat.add 7 j)).2 2147483648) false
def e_kp (iv : e_I) (j : Nat) : Bool := Nat.ble 2147483649 (e_iv iv (Nat.add 7 j)).1
/-- from the byte s on, until n that are not 0 were met -/
def e_adv (iv : e_I) (f : Nat) : Nat → Nat → (Nat → Bool) → Bool := Nat.rec (motive := fun _ => Nat → Nat → (Nat → Bool) → Bool) (fun s n kk => cond (Nat.beq n 0) (kk s) false)
  (fun _ ih s n kk => cond (Nat.beq n 0) (kk s) (cond (Nat.ble 20 s) false (cond (e_kz iv s) (ih (Nat.succ s) n kk) (cond (e_kp iv s) (ih (Nat.succ s) (Nat.pred n) kk) false)))) f
/-- just n of the f bytes from s on are not 0 -/
def e_cnt (iv : e_I) (f : Nat) : Nat → Nat → Bool := Nat.rec (motive := fun _ => Nat → Nat → Bool) (fun _ n => Nat.beq n 0)
  (fun _ ih s n => cond (e_kz iv s) (ih (Nat.succ s) n) (cond (e_kp iv s) (cond (Nat.beq n 0) false (ih (Nat.succ s) (Nat.pred n))) false)) f
/-- what one value says, the other one says too -/
def e_le0 (iv : e_I) (v k : e_V) : Bool := cond (e_eqV v k) true (cond (cond (Nat.beq k.1 4) (cond (Nat.ble 27 k.2) (Nat.ble k.2 47) false) false)
  (cond (Nat.beq v.1 4) (cond (Nat.ble 27 v.2) (cond (Nat.ble v.2 k.2) (e_cnt iv (Nat.sub k.2 v.2) (Nat.sub v.2 27) 0) false) false) (cond (Nat.beq v.1 0) (e_cnt iv (Nat.sub k.2 27) 0 v.2) false)) false)
def e_le1 (iv : e_I) (v k : e_V) : Bool := cond (Nat.beq k.1 99) true (e_le0 iv v k)
def e_eqL {α : Type} (f : α → α → Bool) (l : List α) : List α → Bool := List.rec (motive := fun _ => List α → Bool) (fun m => List.rec (motive := fun _ => Bool) true (fun _ _ _ => false) m) (fun x _ ih m => List.rec (motive := fun _ => Bool) false (fun y t _ => cond (f x y) (ih t) false) m) l
def e_nil {α : Type} (l : List α) : Bool := List.rec (motive := fun _ => Bool) true (fun _ _ _ => false) l
def e_leC (iv : e_I) (c k : e_C) : Bool := cond (Nat.beq c.1 k.1) (cond (Nat.beq c.2.1 k.2.1) (cond (cond (Nat.beq k.1 1) (Nat.beq k.2.2.1.1 13) false) (e_nil k.2.2.2) (cond (e_eqV c.2.2.1 k.2.2.1) (e_eqL (fun p q => cond (Nat.beq p.1 q.1) (e_le0 iv p.2 q.2) false) c.2.2.2 k.2.2.2) false)) false) false
def e_leT (iv : e_I) (n : Nat) : e_T n → e_T n → Bool := Nat.rec (motive := fun n => e_T n → e_T n → Bool) (fun c k => Option.rec (motive := fun _ => Bool) true (fun k' => Option.rec (motive := fun _ => Bool) false (fun c' => e_leC iv c' k') c) k)
  (fun n ih c k => Prod.rec (motive := fun _ => Bool) (fun a b => Prod.rec (motive := fun _ => Bool) (fun a' b' => cond (ih a a') (ih b b') false) k) c) n
def e_eqE (x y : e_E) : Bool := cond (Nat.beq x.1 y.1) (cond (Nat.beq x.2.1 y.2.1) (cond (Nat.beq x.2.2.1 y.2.2.1) (cond (Nat.beq x.2.2.2.1 y.2.2.2.1) (Nat.beq x.2.2.2.2 y.2.2.2.2) false) false) false) false
def e_eqN (I J : e_N) : Bool := cond (Nat.beq I.1 J.1) (cond (Nat.beq I.2.2.1 J.2.2.1) (cond (Nat.beq I.2.2.2.1 J.2.2.2.1) (cond (Nat.beq I.2.2.2.2 J.2.2.2.2) (e_eqL e_eqE I.2.1 J.2.1) false) false) false) false
def e_eqF (f g : e_F) : Bool := cond (e_eqL e_eqV f.2.2.1 g.2.2.1) (cond (e_eqL e_eqV f.2.2.2 g.2.2.2) (cond (e_eqN f.1 g.1) (e_eqL e_eqE f.2.1 g.2.1) false) false) false
/-- the k-th cut: a configuration that stands for this one -/
def e_inst (k : Nat) (I : e_N) (cod : List e_E) (loc stk : List e_V) (fs : List e_F) (w : e_W) (iv : e_I) : Bool :=
  cond (Nat.beq I.1 (e_kI k).1) (cond (Nat.beq I.2.2.1 (e_kI k).2.2.1) (cond (Nat.beq I.2.2.2.1 (e_kI k).2.2.2.1) (cond (Nat.beq I.2.2.2.2 (e_kI k).2.2.2.2) (cond (Nat.beq cod.length (e_kc k).length) (cond (e_nil stk) (cond (e_eqL (e_le1 iv) loc (e_kl k)) (cond (Nat.beq w.1 (e_kw k).1) (cond (e_leT iv 9 w.2 (e_kw k).2) (cond (e_eqL (fun p q => cond (Nat.ble q.1 p.1) (Nat.ble p.2 q.2) false) iv (e_kv k)) (e_eqL e_eqF fs (e_ks k)) false) false) false) false) false) false) false) false) false) false
def e_kn1 (k n : Nat) (I : e_N) (cod : List e_E) (loc stk : List e_V) (fs : List e_F) (w : e_W) (iv : e_I) : Bool := cond (Nat.ble 54 k) false (cond (Nat.ble (e_kf k) n) (e_inst k I cod loc stk fs w iv) false)
def e_kn (n : Nat) (I : e_N) (cod : List e_E) (loc stk : List e_V) (fs : List e_F) (w : e_W) (iv : e_I) : Bool :=
  List.rec (motive := fun _ => Bool) false (fun e _ _ => cond (Nat.beq e.2.1 51) (e_kn1 (e_kx I.1 e.1 (cond (Nat.beq (e_nth loc e.2.2.1).1 0) (e_nth loc e.2.2.1).2 0) iv) n I cod loc stk fs w iv) false) cod
/-- behind a return -/
def e_res (ih : e_A) (rv : List e_V) (fs : List e_F) (w : e_W) (iv : e_I) : Bool :=
  List.rec (motive := fun _ => Bool) (List.rec (motive := fun _ => Bool) false (fun v _ _ => e_eqV v (0, 1)) rv)
    (fun f fs' _ => ih f.1 (e_drop 1 f.2.1) f.2.2.1 (rv ++ f.2.2.2) fs' w iv) fs
/-- behind a throw of the exception of kind E -/
def e_unw (ih : e_A) (E : Nat) (fs : List e_F) (w : e_W) (iv : e_I) : Bool :=
  List.rec (motive := fun _ => Bool) false (fun f fs' r => Nat.rec (motive := fun _ => Bool) r (fun x _ => ih f.1 (e_drop x f.1.2.1) f.2.2.1 [(5, 0)] fs' w iv) (e_hnd (e_hn f.1.1) (e_hpc f.2.1) E)) fs
abbrev e_H : Type := e_A → e_E → List e_E → e_N → List e_V → List e_V → List e_F → e_W → e_I → Bool
def h_no : e_H := fun _ _ _ _ _ _ _ _ _ => false
def h_load : e_H := fun ih e tl I loc stk fs w iv => Prod.rec (motive := fun _ => Bool) (fun t p => cond (e_is e.2.2.2.1 t) (ih I tl loc ((t, p) :: stk) fs w iv) false) (e_nth loc e.2.2.1)
def h_const : e_H := fun ih e tl I loc stk fs w iv => ih I tl loc ((e.2.2.1, e.2.2.2.1) :: stk) fs w iv
def h_goto : e_H := fun ih e tl I loc stk fs w iv => ih I (e_jmp I.2.1 tl e.2.2.2.2) loc stk fs w iv
def h_iinc : e_H := fun ih e tl I loc stk fs w iv => e_con iv (e_nth loc e.2.2.1) (fun n => ih I tl (e_store loc e.2.2.1 (0, Nat.mod (Nat.add n e.2.2.2.1) 4294967296)) stk fs w iv) (e_sp ih (e :: tl) I loc stk fs w iv)
def h_retv : e_H := fun ih _ _ _ _ stk fs w iv => List.rec (motive := fun _ => Bool) (e_res ih [] fs w iv) (fun _ _ _ => false) stk
/-- the words of a stack -/
def e_cs (l : List e_V) : Nat := List.rec (motive := fun _ => Nat) 0 (fun v _ r => Nat.add r (cond (e_cat2 v.1) 2 1)) l
def h_throw : e_H := fun ih e _ I _ stk fs w iv => cond (Nat.ble (e_cs stk) 8) (e_rm I 6 (fun _ => e_unw ih e.2.2.1 fs w iv)) false
def h_new : e_H := fun ih e tl I loc stk fs w iv => e_rm I e.2.2.2.1 (fun I' => cond (Nat.ble w.1 511) (ih I' tl loc ((2, w.1) :: stk) fs (Nat.succ w.1, e_tset 9 w.2 w.1 (some (0, e.2.2.1, (99, 0), e_fl e.2.2.1))) iv) false)
/-- the object that is called: 0 none, ci + 1 a cell of the class ci, 1000 a text -/
def e_recv (w : e_W) (x : Nat) (vs : List e_V) : Bool := Nat.rec (motive := fun _ => Bool) true (fun ci _ => e_q1 vs (fun v _ => cond (Nat.beq ci 999) (Nat.beq v.1 8) (e_cell w v (fun c => cond (Nat.beq c.1 0) (Nat.beq c.2.1 ci) false)))) x
def e_argsOk (e : e_E) (stk : List e_V) (w : e_W) : Bool := cond (Nat.ble (e_cs (e_pops e.2.2.2.1 stk)) 8) (cond (Nat.ble e.2.2.2.1 stk.length) (cond (Nat.ble (e_cs (e_take e.2.2.2.1 [] stk)) (e_bud e.2.2.1).2.2) (e_recv w e.2.2.2.2 (e_take e.2.2.2.1 [] stk)) false) false) false
def h_call : e_H := fun ih e tl I loc stk fs w iv => cond (e_argsOk e stk w)
  (cond (Nat.ble (Nat.add I.2.2.1 (e_bud e.2.2.1).1) (e_bud I.1).1) (cond (Nat.ble (Nat.add I.2.2.2.1 (e_bud e.2.2.1).2.1) (e_bud I.1).2.1)
    (Nat.rec (motive := fun _ => Bool) false (fun d _ => ih (e.2.2.1, e_pg e.2.2.1, 0, 0, d) (e_pg e.2.2.1) (e_entry (e_bud e.2.2.1).2.2 (e_take e.2.2.2.1 [] stk)) [] (((I.1, I.2.1, Nat.add I.2.2.1 (e_bud e.2.2.1).1, Nat.add I.2.2.2.1 (e_bud e.2.2.1).2.1, I.2.2.2.2), e :: tl, loc, e_pops e.2.2.2.1 stk) :: fs) w iv) I.2.2.2.2) false) false) false
def h_store : e_H := fun ih e tl I loc stk fs w iv => e_q1 stk (fun v st => cond (e_is e.2.2.2.1 v.1) (ih I tl (e_store loc e.2.2.1 v) st fs w iv) false)
def h_if : e_H := fun ih e tl I loc stk fs w iv => e_q1 stk (fun v st => e_cmp iv e.2.2.1 v (0, 0) (ih I (e_jmp I.2.1 tl e.2.2.2.2) loc st fs w iv) (ih I tl loc st fs w iv) (e_sp ih (e :: tl) I loc stk fs w iv))
def h_get : e_H := fun ih e tl I loc stk fs w iv => e_q1 stk (fun v st => e_cell w v (fun c => cond (Nat.beq c.1 0) (cond (Nat.beq c.2.1 e.2.2.1) (Prod.rec (motive := fun _ => Bool) (fun t p => ih I tl loc ((t, p) :: st) fs w iv) (e_get c.2.2.2 e.2.2.2.1 c.2.2.1)) false) false))
def h_alen : e_H := fun ih _ tl I loc stk fs w iv => e_q1 stk (fun v st => cond (Nat.beq v.1 10) (ih I tl loc ((0, v.2) :: st) fs w iv) (e_cell w v (fun c => cond (Nat.beq c.1 0) false (ih I tl loc ((0, c.2.1) :: st) fs w iv))))
/-- what is narrowed at a return: 0 nothing, 1 a boolean or byte, 2 a char -/
def e_nr (k : Nat) (v : e_V) : Bool := cond (Nat.beq k 0) true (cond (Nat.beq v.1 0) (Nat.ble v.2 (cond (Nat.beq k 1) 1 65535)) false)
def h_ret : e_H := fun ih e _ _ _ stk fs w iv => e_q1 stk (fun v st => cond (cond (e_is e.2.2.1 v.1) (e_nr e.2.2.2.1 v) false) (List.rec (motive := fun _ => Bool) (e_res ih [v] fs w iv) (fun _ _ _ => false) st) false)
def h_newa : e_H := fun ih e tl I loc stk fs w iv => e_q1 stk (fun v st => e_con iv v (fun n => cond (Nat.ble n 16777216) (e_rm I n (fun I' => cond (Nat.ble w.1 511) (ih I' tl loc ((2, w.1) :: st) fs (Nat.succ w.1, e_tset 9 w.2 w.1 (some (e.2.2.1, n, e_zero e.2.2.1, []))) iv) false)) false) (e_sp ih (e :: tl) I loc stk fs w iv))
def h_ifn : e_H := fun ih e tl I loc stk fs w iv => e_q1 stk (fun v st => cond (Nat.beq v.1 3) (ih I (cond (Nat.beq e.2.2.1 0) (e_jmp I.2.1 tl e.2.2.2.2) tl) loc st fs w iv) (cond (Nat.beq v.1 2) (ih I (cond (Nat.beq e.2.2.1 0) tl (e_jmp I.2.1 tl e.2.2.2.2)) loc st fs w iv) false))
def h_icmp : e_H := fun ih e tl I loc stk fs w iv => e_q2 stk (fun v u st => e_cmp iv e.2.2.1 u v (ih I (e_jmp I.2.1 tl e.2.2.2.2) loc st fs w iv) (ih I tl loc st fs w iv) (e_sp ih (e :: tl) I loc stk fs w iv))
def h_ibin : e_H := fun ih e tl I loc stk fs w iv => e_q2 stk (fun v u st => cond (cond (Nat.beq u.1 4) (cond (Nat.beq e.2.2.1 4) (cond (e_eqV u (4, 0)) (e_eqV v (0, 63)) false) false) false) (ih I tl loc ((4, 6) :: st) fs w iv)
  (e_con iv v (fun n => e_con iv u (fun m => cond (cond (Nat.ble 10 e.2.2.1) (Nat.beq (Nat.mod n 4294967296) 0) false) false (ih I tl loc ((0, (e_ib e.2.2.1).2 m n) :: st) fs w iv)) (e_sp ih (e :: tl) I loc stk fs w iv)) (e_sp ih (e :: tl) I loc stk fs w iv)))
def h_ald : e_H := fun ih e tl I loc stk fs w iv => e_q2 stk (fun v u st => e_con iv v (fun n => cond (Nat.beq u.1 10) (cond (cond (Nat.beq e.2.2.1 1) (Nat.ble (Nat.succ n) u.2) false) (ih I tl loc ((4, n) :: st) fs w iv) false)
  (e_cell w u (fun c => cond (Nat.beq c.1 e.2.2.1) (cond (Nat.ble (Nat.succ n) c.2.1) (Prod.rec (motive := fun _ => Bool) (fun t p => ih I tl loc ((t, p) :: st) fs w iv) (e_get c.2.2.2 n c.2.2.1)) false) false))) (e_sp ih (e :: tl) I loc stk fs w iv))
/-- a field's kind: 0 int, 1 boolean, 2 long, 3 a reference -/
def e_fk (k : Nat) (v : e_V) : Bool := cond (Nat.beq k 0) (e_is 0 v.1) (cond (Nat.beq k 1) (cond (Nat.beq v.1 0) (Nat.ble v.2 1) false) (cond (Nat.beq k 2) (Nat.beq v.1 1) (e_is 2 v.1)))
def h_putf : e_H := fun ih e tl I loc stk fs w iv => e_q2 stk (fun v u st => e_cell w u (fun c => cond (Nat.beq c.1 0) (cond (Nat.beq c.2.1 e.2.2.1) (cond (e_fk e.2.2.2.2 v) (ih I tl loc st fs (w.1, e_tset 9 w.2 u.2 (some (0, c.2.1, c.2.2.1, e_set c.2.2.2 e.2.2.2.1 v))) iv) false) false) false))
def h_dup : e_H := fun ih _ tl I loc stk fs w iv => e_q1 stk (fun v _ => cond (e_cat2 v.1) false (ih I tl loc (v :: stk) fs w iv))
def h_pop : e_H := fun ih _ tl I loc stk fs w iv => e_q1 stk (fun v st => cond (e_cat2 v.1) false (ih I tl loc st fs w iv))
def h_i2l : e_H := fun ih e tl I loc stk fs w iv => e_q1 stk (fun v st => e_con iv v (fun n => ih I tl loc ((1, e_ul (e_i n).toInt64) :: st) fs w iv) (e_sp ih (e :: tl) I loc stk fs w iv))
def h_l2i : e_H := fun ih _ tl I loc stk fs w iv => e_q1 stk (fun v st => cond (Nat.beq v.1 1) (ih I tl loc ((0, e_u (e_l v.2).toInt32) :: st) fs w iv) false)
def h_tsw : e_H := fun ih e tl I loc stk fs w iv => e_q1 stk (fun v st => cond (e_is 0 v.1) (e_ltR (e_rng iv v) (e_rng iv (0, e.2.2.1)) v (0, e.2.2.1) (ih I (e_jmp I.2.1 tl (e_ov (e_ovr e.2.2.2.2) 0)) loc st fs w iv)
  (e_ltR (e_rng iv (0, Nat.add e.2.2.1 e.2.2.2.1)) (e_rng iv v) (0, Nat.add e.2.2.1 e.2.2.2.1) v (ih I (e_jmp I.2.1 tl (e_ov (e_ovr e.2.2.2.2) 0)) loc st fs w iv)
    (e_con iv v (fun n => cond (cond (Nat.ble e.2.2.1 n) (Nat.ble n (Nat.add e.2.2.1 e.2.2.2.1)) false) (ih I (e_jmp I.2.1 tl (e_ov (e_ovr e.2.2.2.2) (Nat.succ (Nat.sub n e.2.2.1)))) loc st fs w iv) false) (e_sp ih (e :: tl) I loc stk fs w iv)) (e_sp ih (e :: tl) I loc stk fs w iv)) (e_sp ih (e :: tl) I loc stk fs w iv)) false)
def h_objinit : e_H := fun ih _ tl I loc stk fs w iv => e_q1 stk (fun v st => cond (Nat.beq v.1 2) (cond (Nat.ble (e_cs st) 8) (ih I tl loc st fs w iv) false) false)
def h_lbin : e_H := fun ih e tl I loc stk fs w iv => e_q2 stk (fun v u st => cond (cond (Nat.beq v.1 1) (Nat.beq u.1 1) false) (ih I tl loc ((1, (e_lb e.2.2.1).2 u.2 v.2) :: st) fs w iv) false)
def h_lsh : e_H := fun ih e tl I loc stk fs w iv => e_q2 stk (fun v u st => e_con iv v (fun n => cond (Nat.beq u.1 1) (ih I tl loc ((1, (e_ls e.2.2.1).2 u.2 n) :: st) fs w iv) false) (e_sp ih (e :: tl) I loc stk fs w iv))
def h_lcmp : e_H := fun ih _ tl I loc stk fs w iv => e_q2 stk (fun v u st => cond (cond (Nat.beq v.1 1) (Nat.beq u.1 1) false) (ih I tl loc ((0, e_u (lg_cmp (e_l u.2) (e_l v.2))) :: st) fs w iv) false)
def h_acmp : e_H := fun ih e tl I loc stk fs w iv => e_q2 stk (fun v u st => cond (cond (Nat.beq v.1 2) (cond (Nat.beq u.1 2) true (Nat.beq u.1 3)) (cond (Nat.beq v.1 3) (cond (Nat.beq u.1 2) true (Nat.beq u.1 3)) false))
  (ih I (cond (cond (Nat.beq u.1 v.1) (cond (Nat.beq v.1 3) true (Nat.beq u.2 v.2)) false) tl (e_jmp I.2.1 tl e.2.2.2.2)) loc st fs w iv) false)
def h_ast : e_H := fun ih e tl I loc stk fs w iv => e_q2 stk (fun v u s2 => e_q1 s2 (fun z st => e_con iv u (fun n => e_cell w z (fun c => cond (Nat.beq c.1 e.2.2.1) (cond (Nat.ble (Nat.succ n) c.2.1) (cond (cond (Nat.beq e.2.2.1 1) (e_is 0 v.1) (cond (Nat.beq e.2.2.1 2) (cond (Nat.beq v.1 0) (Nat.ble v.2 1) false) (cond (Nat.beq e.2.2.1 3) (Nat.beq v.1 1) false)))
  (ih I tl loc st fs (cond (e_eqV (e_get c.2.2.2 n c.2.2.1) v) w (w.1, e_tset 9 w.2 z.2 (some (c.1, c.2.1, c.2.2.1, e_set c.2.2.2 n v)))) iv) false) false) false)) (e_sp ih (e :: tl) I loc stk fs w iv)))
def h_dup2 : e_H := fun ih _ tl I loc stk fs w iv => e_q2 stk (fun v u _ => cond (cond (e_cat2 v.1) true (e_cat2 u.1)) false (ih I tl loc (v :: u :: stk) fs w iv))
def e_cpy (src : List (Nat × e_V)) (sd : e_V) (sp dp : Nat) (dd : e_V) (mp : List (Nat × e_V)) (n : Nat) : List (Nat × e_V) := Nat.rec (motive := fun _ => List (Nat × e_V)) mp (fun j acc => cond (e_eqV (e_get acc (Nat.add dp j) dd) (e_get src (Nat.add sp j) sd)) acc (e_set acc (Nat.add dp j) (e_get src (Nat.add sp j) sd))) n
def h_acopy : e_H := fun ih _ tl I loc stk fs w iv => e_q2 stk (fun vn vdp s2 => e_q2 s2 (fun vd vsp s3 => e_q1 s3 (fun vs st => cond (cond (Nat.ble (e_cs st) 8) (cond (Nat.beq vn.1 0) (cond (Nat.beq vdp.1 0) (Nat.beq vsp.1 0) false) false) false)
  (e_cell w vs (fun cs => e_cell w vd (fun cd => cond (cond (Nat.beq cs.1 1) (cond (Nat.beq cd.1 1) (cond (Nat.ble (Nat.add vsp.2 vn.2) cs.2.1) (cond (Nat.ble (Nat.add vdp.2 vn.2) cd.2.1) (cond (Nat.ble cs.2.1 16777216) (Nat.ble cd.2.1 16777216) false) false) false) false) false)
    (ih I tl loc st fs (w.1, e_tset 9 w.2 vd.2 (some (1, cd.2.1, cd.2.2.1, e_cpy cs.2.2.2 cs.2.2.1 vsp.2 vdp.2 cd.2.2.1 cd.2.2.2 vn.2))) iv) false))) false)))
def h_i2c : e_H := fun ih e tl I loc stk fs w iv => e_q1 stk (fun v st => e_con iv v (fun n => ih I tl loc ((0, e_u ((e_i n).toUInt32 % 65536).toInt32) :: st) fs w iv) (e_sp ih (e :: tl) I loc stk fs w iv))
def h_i2f : e_H := fun ih _ tl I loc stk fs w iv => e_q1 stk (fun v st => cond (Nat.beq v.1 0) (ih I tl loc ((6, (FP.i2f (e_i v.2)).toNat) :: st) fs w iv) false)
def h_fdiv : e_H := fun ih _ tl I loc stk fs w iv => e_q2 stk (fun v u st => cond (cond (Nat.beq v.1 6) (cond (Nat.beq u.1 6) (decide ((FP.fdiv (UInt32.ofNat u.2) (UInt32.ofNat v.2)) &&& 0x7fffffff ≤ 0x7f800000)) false) false) (ih I tl loc ((6, (FP.fdiv (UInt32.ofNat u.2) (UInt32.ofNat v.2)).toNat) :: st) fs w iv) false)
def h_f2d : e_H := fun ih _ tl I loc stk fs w iv => e_q1 stk (fun v st => cond (cond (Nat.beq v.1 6) (decide ((FP.f2d (UInt32.ofNat v.2)) &&& 0x7fffffffffffffff ≤ 0x7ff0000000000000)) false) (ih I tl loc ((7, (FP.f2d (UInt32.ofNat v.2)).toNat) :: st) fs w iv) false)
def h_dcmp : e_H := fun ih _ tl I loc stk fs w iv => e_q2 stk (fun v u st => cond (cond (Nat.beq v.1 7) (Nat.beq u.1 7) false) (ih I tl loc ((0, e_u (Op.cmpValue (FP.dcmp (UInt64.ofNat u.2) (UInt64.ofNat v.2)) .l)) :: st) fs w iv) false)
def h_tget : e_H := fun ih e tl I loc stk fs w iv => e_q1 stk (fun v st => cond (Nat.beq v.1 8) (ih I tl loc (cond (Nat.beq e.2.2.1 0) (9, v.2) (0, 0) :: st) fs w iv) false)
def h_tlen : e_H := fun ih _ tl I loc stk fs w iv => e_q1 stk (fun v st => cond (Nat.beq v.1 9) (ih I tl loc ((0, (e_tx v.2).length) :: st) fs w iv) false)
def h_tald : e_H := fun ih e tl I loc stk fs w iv => e_q2 stk (fun v u st => e_con iv v (fun n => cond (Nat.beq u.1 9) (cond (Nat.ble (Nat.succ n) (e_tx u.2).length) (ih I tl loc ((0, e_ov (e_tx u.2) n) :: st) fs w iv) false) false) (e_sp ih (e :: tl) I loc stk fs w iv))
def h_astq : e_H := fun ih e tl I loc stk fs w iv => e_q2 stk (fun v u s2 => e_q1 s2 (fun z st => e_con iv u (fun n => e_cell w z (fun c => cond (Nat.beq c.1 e.2.2.1) (cond (Nat.ble (Nat.succ n) c.2.1)
  (cond (cond (Nat.beq v.1 3) true (cond (Nat.beq v.1 2) (Option.rec (motive := fun _ => Bool) false (fun cv => cond (Nat.beq cv.1 0) (Nat.beq (Nat.add 4 cv.2.1) e.2.2.1) false) (e_tget 9 w.2 v.2)) false))
  (ih I tl loc st fs (cond (e_eqV (e_get c.2.2.2 n c.2.2.1) v) w (w.1, e_tset 9 w.2 z.2 (some (c.1, c.2.1, c.2.2.1, e_set c.2.2.2 n v)))) iv) false) false) false)) (e_sp ih (e :: tl) I loc stk fs w iv)))
def h_mmax : e_H := fun ih e tl I loc stk fs w iv => e_q2 stk (fun v u st => cond (Nat.ble (e_cs st) 8) (e_con iv v (fun n => e_con iv u (fun m => cond (Nat.ble (Nat.succ (e_off m)) (e_off n)) (ih I tl loc ((0, n) :: st) fs w iv) (ih I tl loc ((0, m) :: st) fs w iv)) (e_sp ih (e :: tl) I loc stk fs w iv)) (e_sp ih (e :: tl) I loc stk fs w iv)) false)
def h_mmin : e_H := fun ih e tl I loc stk fs w iv => e_q2 stk (fun v u st => cond (Nat.ble (e_cs st) 8) (e_con iv v (fun n => e_con iv u (fun m => cond (Nat.ble (Nat.succ (e_off n)) (e_off m)) (ih I tl loc ((0, n) :: st) fs w iv) (ih I tl loc ((0, m) :: st) fs w iv)) (e_sp ih (e :: tl) I loc stk fs w iv)) (e_sp ih (e :: tl) I loc stk fs w iv)) false)
/-- what knows unknown bytes and sums: else as ever -/
def e_bsp (ih : e_A) (op : Nat) (v u : e_V) (st : List e_V) (I : e_N) (tl : List e_E) (loc : List e_V) (fs : List e_F) (w : e_W) (iv : e_I) : Bool :=
  cond (Nat.beq u.1 4)
    (cond (Nat.beq op 9)
      (cond (Nat.beq v.1 0) (cond (Nat.ble u.2 5) ((fun j => cond (Nat.ble j 19) (cond (Nat.beq (Nat.succ (Nat.div j 4)) u.2) (cond (Nat.beq (Nat.sub 24 (Nat.mul 8 (Nat.mod j 4))) v.2) (ih I tl loc ((11, j) :: st) fs w iv) false) false) false) (Nat.add (Nat.mul 4 (Nat.pred u.2)) (Nat.sub 3 (Nat.div v.2 8)))) false) false)
      (cond (Nat.beq op 1) (cond (Nat.beq v.1 0) (cond (Nat.ble 27 u.2) (cond (Nat.ble u.2 47) (e_adv iv 20 (Nat.sub u.2 27) v.2 (fun t => ih I tl loc ((4, Nat.add 27 t) :: st) fs w iv)) false) false) false) false))
    (cond (Nat.beq u.1 11) (cond (Nat.beq op 4) (cond (e_eqV v (0, 255)) (ih I tl loc ((4, Nat.add 7 u.2) :: st) fs w iv) false) false)
      (cond (Nat.beq v.1 4) (cond (Nat.beq op 1) (cond (e_eqV u (0, 0)) (cond (Nat.ble 27 v.2) (ih I tl loc (v :: st) fs w iv) false) false) false) false))
def h_ibinS : e_H := fun ih e tl I loc stk fs w iv => cond (e_q2 stk (fun v u st => e_bsp ih e.2.2.1 v u st I tl loc fs w iv)) true (h_ibin ih e tl I loc stk fs w iv)
def h_i2lS : e_H := fun ih e tl I loc stk fs w iv => cond (e_q1 stk (fun v st => cond (Nat.beq v.1 4) (cond (Nat.ble 27 v.2) (ih I tl loc ((14, v.2) :: st) fs w iv) false) false)) true (h_i2l ih e tl I loc stk fs w iv)
def h_lcmpS : e_H := fun ih e tl I loc stk fs w iv => cond (e_q2 stk (fun v u st => cond (Nat.beq v.1 14) (cond (e_eqV u v) (ih I tl loc ((0, 0) :: st) fs w iv) false) false)) true (h_lcmp ih e tl I loc stk fs w iv)
def h_astS : e_H := fun ih e tl I loc stk fs w iv => cond (e_q2 stk (fun v u s2 => e_q1 s2 (fun z st =>
  cond (Nat.beq u.1 4) (cond (e_is 0 v.1) (cond (Nat.beq e.2.2.1 1) (e_cell w z (fun c => cond (Nat.beq c.1 1) (cond (Nat.ble 2147483648 (e_iv iv u.2).1) (cond (Nat.ble (Nat.succ (e_iv iv u.2).2) (Nat.add 2147483648 c.2.1)) (ih I tl loc st fs (w.1, e_tset 9 w.2 z.2 (some (1, c.2.1, (13, 0), []))) iv) false) false) false)) false) false)
    (cond (Nat.beq v.1 14) (cond (Nat.beq u.1 0) (cond (Nat.beq e.2.2.1 3) (e_cell w z (fun c => cond (Nat.beq c.1 3) (cond (Nat.ble (Nat.succ u.2) c.2.1) (ih I tl loc st fs (cond (e_eqV (e_get c.2.2.2 u.2 c.2.2.1) v) w (w.1, e_tset 9 w.2 z.2 (some (c.1, c.2.1, c.2.2.1, e_set c.2.2.2 u.2 v)))) iv) false) false)) false) false) false)))) true (h_ast ih e tl I loc stk fs w iv)
def e_hsA : List e_H := [h_no, h_load, h_const, h_goto, h_iinc, h_retv, h_throw, h_new, h_call, h_store, h_if, h_get, h_alen, h_ret, h_newa, h_ifn, h_icmp, h_ibin, h_ald, h_putf, h_dup, h_pop, h_i2l, h_l2i, h_tsw, h_objinit, h_lbin, h_lsh, h_lcmp, h_acmp, h_ast, h_dup2, h_const, h_acopy, h_const, h_i2c, h_i2f, h_fdiv, h_f2d, h_dcmp, h_tget, h_tlen, h_tald, h_astq, h_mmax, h_mmin, h_throw, h_ibinS, h_i2lS, h_lcmpS, h_astS, h_load]
def e_sel (op : Nat) : Unit × e_H := ((), List.rec (motive := fun _ => Nat → e_H) (fun _ => h_no) (fun h _ ih k => Nat.rec (motive := fun _ => e_H) h (fun k' _ => ih k') k) e_hsA op)
def e_step (ih : e_A) : e_A := fun I cod loc stk fs w iv => List.rec (motive := fun _ => Bool) false (fun e tl _ => (e_sel e.2.1).2 ih e tl I loc stk fs w iv) cod
def e_acc (n : Nat) : e_A := Nat.rec (motive := fun _ => e_A) (fun _ _ _ _ _ _ _ => false) (fun n ih => fun I cod loc stk fs w iv => cond (e_kn n I cod loc stk fs w iv) true (e_step ih I cod loc stk fs w iv)) n
end
