theorem pq_ph29 : True := trivial
