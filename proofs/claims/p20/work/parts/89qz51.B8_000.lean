/-! rule() of both sides: what is written, what is left alone -/
theorem fz_X3_read {X G : Mm} {S : Sh} {K : Int → Mm → Prop} {M : Mm} (hG : Inv X S G) (f : fr1_F G M) (h : wp_X3_read S M 52 (fun a m => fr1_F G m → K a m)) : wp_X3_read S M 52 K := fr1_X3_read hG (fun _ _ fm z => z fm) f h
