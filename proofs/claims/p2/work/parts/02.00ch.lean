-- cells by short words: an object; arrays of ints (bytes, booleans), longs, references
abbrev eO (a c : Nat) (fs : List Value) : Nat × va_E := (a, .inr (c, fs))
abbrev eI (a : Nat) (k : ClassId) (n : Nat) (f : Nat → Int32) : Nat × va_E := (a, .inl (k, n, .inl f))
abbrev eL (a : Nat) (k : ClassId) (n : Nat) (f : Nat → Int64) : Nat × va_E := (a, .inl (k, n, .inr (.inl f)))
abbrev eR (a : Nat) (k : ClassId) (n : Nat) (f : Nat → Option Nat) : Nat × va_E := (a, .inl (k, n, .inr (.inr (.inr (.inr f)))))
