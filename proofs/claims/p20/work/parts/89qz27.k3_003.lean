def codC : List Cz → List Int
  | [] => []
  | c :: l => cod1 c ++ codC l
