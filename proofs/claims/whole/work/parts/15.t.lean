theorem zu3 (v6 : Int32) : (v6 + (-1)) = HAdd.hAdd v6 (Neg.neg (OfNat.ofNat 1)) := by with_reducible rfl
theorem zu4 : (Sum.inl (-1) : ax_V) = Sum.inl (Neg.neg (OfNat.ofNat 1)) := by with_reducible rfl
theorem zu5 : (ax_nth L_X11_copy 123).map (fun e => e.2.2.2) = some (Sum.inl (Neg.neg (OfNat.ofNat 1))) := rfl
theorem zu6 {e : Nat} {v1 v2 v3 v4 v5 v6 : Int32} {m : ax_M} (n : Nat) : ax_ex (n + 1) (e + 3) L_X11_copy 123 [some (.inr (.inr (22, 0))), some (.inl v1), some (.inl v2), some (.inl v3), some (.inl v4), some (.inl v5), some (.inl v6)] [] m = ax_ex n (e + 3) L_X11_copy 124 (ax_stv [some (.inr (.inr (22, 0))), some (.inl v1), some (.inl v2), some (.inl v3), some (.inl v4), some (.inl v5), some (.inl v6)] 6 (.inl (v6 + (-1)))) [] m := rfl
