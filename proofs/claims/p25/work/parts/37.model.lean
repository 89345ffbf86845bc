def rKind (c : Int) : Int := if kIdx c = -1 then -11 else kIdx c
